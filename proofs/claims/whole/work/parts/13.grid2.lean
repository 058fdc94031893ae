theorem gd_hput_a {wan : Nat → Int32} {q F t1 : Nat} {b : Bool} {p2 p3 p4 r : Int32} (w1 : (r.toInt = 1 ∧ b = true) ∨ (r.toInt = 0 ∧ b = false)) (w2 : wan 0 = p3 ∧ wan 1 = p2 ∧ wan 2 = p4 ∧ wan 3 = p2 ∧ ((r.toInt = 0 ∧ (wan 4).toInt = 0) ∨ (¬ r.toInt = 0 ∧ (wan 4).toInt = 1))) (e3 : p3.toInt = (F : Int)) (e2 : p2.toInt = (q : Int)) (e4 : p4.toInt = (t1 : Int)) : gd_is wan (gd_la q (F, t1, b)) := by
  obtain ⟨z0, z1, z2, z3, z4⟩ := w2
  refine ⟨by rw [z0]; exact e3, by rw [z1]; exact e2, by rw [z2]; exact e4, by rw [z3]; exact e2, ?_⟩
  show (wan 4).toInt = gd_b b
  rcases w1 with ⟨y1, rfl⟩ | ⟨y1, rfl⟩
  · show (wan 4).toInt = 1
    omega
  · show (wan 4).toInt = 0
    omega
theorem gd_hput_s {wan : Nat → Int32} {q F t1 : Nat} {b : Bool} {p2 p3 p4 r : Int32} (w1 : (r.toInt = 1 ∧ b = true) ∨ (r.toInt = 0 ∧ b = false)) (w2 : wan 0 = p2 ∧ wan 1 = p3 ∧ wan 2 = p2 ∧ wan 3 = p4 ∧ ((r.toInt = 0 ∧ (wan 4).toInt = 0) ∨ (¬ r.toInt = 0 ∧ (wan 4).toInt = 1))) (e3 : p3.toInt = (F : Int)) (e2 : p2.toInt = (q : Int)) (e4 : p4.toInt = (t1 : Int)) : gd_is wan (gd_ls q (F, t1, b)) := by
  obtain ⟨z0, z1, z2, z3, z4⟩ := w2
  refine ⟨by rw [z0]; exact e2, by rw [z1]; exact e3, by rw [z2]; exact e2, by rw [z3]; exact e4, ?_⟩
  show (wan 4).toInt = gd_b b
  rcases w1 with ⟨y1, rfl⟩ | ⟨y1, rfl⟩
  · show (wan 4).toInt = 1
    omega
  · show (wan 4).toInt = 0
    omega
set_option maxHeartbeats 4000000 in
set_option maxRecDepth 100000 in
theorem k_Grid_walkRow_a (l : Launch) (dC : Nat → ClassId) (dI : Nat → Nat → Nat) (cI cZ : ClassId) (oG : Nat) (aK : Nat) (aW : Nat) (wid : Int32) (hig : Int32) (cag : Nat → Int32) (wan : Nat → Int32) (sz : Nat) (p2 : Int32) (p3 : Int32) (p4 : Int32) (wN : Nat) (hN : Nat) (q : Nat) (G0 : List gd_L) (ew : wid.toInt = (wN : Int)) (eh : hig.toInt = (hN : Int)) (hw1 : 1 ≤ wN ∧ wN ≤ 8) (hh1 : 1 ≤ hN ∧ hN ≤ 8) (eq : p2.toInt = (q : Int)) (hq : q ≤ hN) (e3 : p3.toInt = (G0.length : Int)) (hG0 : G0.length ≤ 1000) (hK0 : gd_K p4 wan G0) : Met l y_Grid_walkRow w_Grid_walkRow ({ frames := 1, cells := 0, slots := 0, locals := 26 }) (va_Pc [.ref oG, .int 1, .int p2, .int p3, .int p4] (fun U => U.heap.size = sz ∧ va_P (dC, dI) classes [(oG, .inr (2, [.int wid, .int hig, .ref aK, .ref aW])), (aK, .inl (cI, 64, .inl cag)), (aW, .inl (cI, 5, .inl wan))] U.heap ∧ va_K (dC, dI) classes [(cI, .int), (cZ, .boolean)] U ∧ va_D (fun _ => True) [(oG, .inr (2, [.int wid, .int hig, .ref aK, .ref aW])), (aK, .inl (cI, 64, .inl cag)), (aW, .inl (cI, 5, .inl wan))])) (va_Qi (fun (r : Int32) (u : (Nat → Int32)) => r.toInt = ((G0 ++ (gd_row (gd_a wN hN cag q) wN wN).1.map (gd_la q)).length : Int) ∧ gd_K p4 u (G0 ++ (gd_row (gd_a wN hN cag q) wN wN).1.map (gd_la q))) (fun (u : (Nat → Int32)) (t : State) => va_P (dC, dI) classes [(oG, .inr (2, [.int wid, .int hig, .ref aK, .ref aW])), (aK, .inl (cI, 64, .inl cag)), (aW, .inl (cI, 5, .inl u))] t.heap ∧ va_K (dC, dI) classes [(cI, .int), (cZ, .boolean)] t ∧ va_D (va_A [(oG, .inr (2, [.int wid, .int hig, .ref aK, .ref aW])), (aK, .inl (cI, 64, .inl cag)), (aW, .inl (cI, 5, .inl wan))] sz) [(oG, .inr (2, [.int wid, .int hig, .ref aK, .ref aW])), (aK, .inl (cI, 64, .inl cag)), (aW, .inl (cI, 5, .inl u))]) (va_A [(oG, .inr (2, [.int wid, .int hig, .ref aK, .ref aW])), (aK, .inl (cI, 64, .inl cag)), (aW, .inl (cI, 5, .inl wan))] sz)) 0 0 (va_A [(oG, .inr (2, [.int wid, .int hig, .ref aK, .ref aW])), (aK, .inl (cI, 64, .inl cag)), (aW, .inl (cI, 5, .inl wan))] sz) := by
  refine Met.ofW (cc := b_Grid_walkRow) (maxL := 10) (ret := (some .int)) (by decide) rfl ?_
  intro p e s m args below meth c s₁ B hml hv
  obtain ⟨rfl, hsz, hP, hK, hD0⟩ := hv
  have hx := B.exec
  have hb := B.bytes
  have hr := B.returns
  have hts := atoms_spec (ws := w_Grid_walkRow) B.pre
  have hown : s.vm.findClass R_Grid = some m.cls := findClass_of_methodNamed B.named
  have hlocks := B.notSynchronized
  have hw_Grid : ∀ w ∈ w_Grid, w ∈ w_Grid_walkRow := by decide +kernel
  subst hsz
  have hD := hD0.self (sz := s.heap.size)
  generalize hAe : va_A [(oG, .inr (2, [.int wid, .int hig, .ref aK, .ref aW])), (aK, .inl (cI, 64, .inl cag)), (aW, .inl (cI, 5, .inl wan))] s.heap.size = A at hD ⊢
  have hA : ∀ q : Nat, s.heap.size ≤ q → A q := fun q h => by rw [← hAe]; exact Or.inr h
  have hS : va_S A s.heap s.heap [] := va_S.rf
  have hP : va_P (dC, dI) classes [(oG, .inr (2, [.int wid, .int hig, .ref aK, .ref aW])), (aK, .inl (cI, 64, .inl cag)), (aW, .inl (cI, 5, .inl wan))] s.heap := hP
  have hl := lv_entry ([.ref oG, .int 1, .int p2, .int p3, .int p4]) (n := 10) (Nat.le_of_ble_eq_true rfl)
  rw [lg_entry_eq]
  generalize (lg_sl ([.ref oG, .int 1, .int p2, .int p3, .int p4]) ++ List.replicate (10 - (lg_sl ([.ref oG, .int 1, .int p2, .int p3, .int p4])).length) Slot.unset).toArray = ls at hl ⊢
  have hl : lv_has ls 10 [(0, .ref oG), (1, .int 1), (2, .int p2), (3, .int p3), (4, .int p4)] := hl
  have loop26 : ∀ (n26 : Nat) (tt : Nat) (G : List gd_L) (x6 : Int32) (x7 : Int32) (x8 : Int32) (wan1 : Nat → Int32), (wN - tt < n26) → (tt ≤ wN) → (G = G0 ++ (gd_row (gd_a wN hN cag q) wN tt).1.map (gd_la q)) → (x6.toInt = (G.length : Int)) → (x7.toInt = (((gd_row (gd_a wN hN cag q) wN tt).2 : Nat) : Int)) → (x8.toInt = ((tt + 1 : Nat) : Int)) → (gd_K p4 wan1 G) → ∀ (H : Heap) (locs : List Loc), va_P (dC, dI) classes [(oG, .inr (2, [.int wid, .int hig, .ref aK, .ref aW])), (aK, .inl (cI, 64, .inl cag)), (aW, .inl (cI, 5, .inl wan1))] H → va_D A [(oG, .inr (2, [.int wid, .int hig, .ref aK, .ref aW])), (aK, .inl (cI, 64, .inl cag)), (aW, .inl (cI, 5, .inl wan1))] → va_S A s.heap H locs → ∀ (ls : Array Slot), lv_has ls 10 [(0, .ref oG), (1, .int 1), (2, .int p2), (3, .int p3), (4, .int p4), (5, .int wid), (6, .int x6), (7, .int x7), (8, .int x8)] → W p l e (headSpec w_Grid_walkRow ({ frames := 1, cells := 0, slots := 0, locals := 26 })).room s m ([.ref oG, .int 1, .int p2, .int p3, .int p4] : List Value).toArray below meth c H locs 0 0 (MQ below (va_Qi (fun (r : Int32) (u : (Nat → Int32)) => r.toInt = ((G0 ++ (gd_row (gd_a wN hN cag q) wN wN).1.map (gd_la q)).length : Int) ∧ gd_K p4 u (G0 ++ (gd_row (gd_a wN hN cag q) wN wN).1.map (gd_la q))) (fun (u : (Nat → Int32)) (t : State) => va_P (dC, dI) classes [(oG, .inr (2, [.int wid, .int hig, .ref aK, .ref aW])), (aK, .inl (cI, 64, .inl cag)), (aW, .inl (cI, 5, .inl u))] t.heap ∧ va_K (dC, dI) classes [(cI, .int), (cZ, .boolean)] t ∧ va_D (A) [(oG, .inr (2, [.int wid, .int hig, .ref aK, .ref aW])), (aK, .inl (cI, 64, .inl cag)), (aW, .inl (cI, 5, .inl u))]) (A)) ([.ref oG, .int 1, .int p2, .int p3, .int p4] : List Value).toArray s 0 0 A) (F0 m 26 ls []) := by
    intro n26
    induction n26 with
    | zero => intro tt G x6 x7 x8 wan1 hmz26; omega
    | succ n26 ih26 =>
      intro tt G x6 x7 x8 wan1 hmz26 ht0 hG e6 e7 e8 hKK H locs hP hD hS ls hl
      have hrl := gd_row_le (gd_a wN hN cag q) wN tt
      have hGl : G.length ≤ 1000 + tt := by rw [hG, List.length_append, List.length_map]; omega
      refine lv_iload hx hb d_Grid_walkRow_26 (lv_at hl 8 rfl) ?_
      refine lv_iload hx hb d_Grid_walkRow_28 (lv_at hl 5 rfl) ?_
      refine xi_icmp_gt (tgt := 95) hx hb e8 ew d_Grid_walkRow_30 (by decide) (fun c30 => ?_) (fun c30 => ?_)
      · refine lv_iload hx hb d_Grid_walkRow_95 (lv_at hl 6 rfl) ?_
        have htN : tt = wN := by omega
        rw [htN] at hG
        exact W.iret (v := x6) hx hb hr (fun t ht hW => ⟨⟨x6, wan1, rfl, (show x6.toInt = ((G0 ++ (gd_row (gd_a wN hN cag q) wN wN).1.map (gd_la q)).length : Int) ∧ gd_K p4 wan1 (G0 ++ (gd_row (gd_a wN hN cag q) wN wN).1.map (gd_la q)) from ⟨by rw [← hG]; exact e6, by rw [← hG]; exact hKK⟩), by rw [ht]; exact hP, va_K.moved hW.alike hK, hD⟩, hS.F ht⟩) hS.2.2 d_Grid_walkRow_97
      · refine lv_aload_n hx hb d_Grid_walkRow_33 rfl (lv_at hl 0 rfl) ?_
        refine lv_iload_n hx hb d_Grid_walkRow_34 rfl (lv_at hl 1 rfl) ?_
        refine lv_iload_n hx hb d_Grid_walkRow_35 rfl (lv_at hl 2 rfl) ?_
        refine lv_iload hx hb d_Grid_walkRow_36 (lv_at hl 7 rfl) ?_
        have hPc := hP.sub (ws' := [(oG, .inr (2, [.int wid, .int hig, .ref aK, .ref aW])), (aK, .inl (cI, 64, .inl cag)), (aW, .inl (cI, 5, .inl wan1))]) [0, 1, 2] rfl
        have hDc := hD.sub (ws' := [(oG, .inr (2, [.int wid, .int hig, .ref aK, .ref aW])), (aK, .inl (cI, 64, .inl cag)), (aW, .inl (cI, 5, .inl wan1))]) [0, 1, 2] (by decide) rfl
        have hFc := va_free (wc := [(oG, .inr (2, [.int wid, .int hig, .ref aK, .ref aW])), (aK, .inl (cI, 64, .inl cag)), (aW, .inl (cI, 5, .inl wan1))]) hD hS hA [0, 1, 2] rfl
        refine va_calli (va_runV (As := [.int 1, .int p2, .int x7]) (rest := []) ⟨hx, hb, hml, hown, hts⟩ (k_Grid_isThick_a l dC dI cI cZ oG aK aW wid hig cag wan1 H.size p2 x7 wN hN q ((gd_row (gd_a wN hN cag q) wN tt).2) ew eh hw1 hh1 eq e7 (by omega) hq) (cwV 3 hts g_Grid_walkRow_Grid_isThick rfl rfl rfl (by decide +kernel) ⟨Nat.le_of_ble_eq_true rfl, Nat.le_of_ble_eq_true rfl⟩) ⟨fun a U g mk q => by obtain ⟨q0, q1, qP, qK, qD⟩ := q; exact ⟨q0, q1, qP, va_K.moved (u := U) (U := U.calling g mk a) (Vm.Alike.refl U.vm) qK, qD⟩, va_recv hK hPc (ci := 2) (q0 := 0) rfl rfl, fun U hU hW => ⟨rfl, by rw [hU], by rw [hU]; exact hPc, va_K.moved hW.alike hK, hDc.weaken (fun _ _ _ _ => trivial)⟩⟩ rfl rfl hl.1 rfl (lv_room (Nat.le_of_ble_eq_true rfl)) d_Grid_walkRow_38 ⟨Nat.le_of_ble_eq_true rfl, Nat.le_of_ble_eq_true rfl⟩) hS (fun q _ h => hFc q h) hFc (fun r38 u t H1 locs ht hvm hw hB hz1 hk1 hS => ?_)
        have w38 : (r38.toInt = 1 ∧ gd_a wN hN cag q ((gd_row (gd_a wN hN cag q) wN tt).2) = true) ∨ (r38.toInt = 0 ∧ gd_a wN hN cag q ((gd_row (gd_a wN hN cag q) wN tt).2) = false) := hw
        obtain ⟨hP1, hK1, hD1⟩ := hB
        rw [ht] at hP1
        obtain ⟨hP, hD⟩ := va_join (wr := []) (w1 := [(oG, .inr (2, [.int wid, .int hig, .ref aK, .ref aW])), (aK, .inl (cI, 64, .inl cag)), (aW, .inl (cI, 5, .inl wan1))]) hP hD [0, 1, 2] [] rfl rfl (by decide) (by decide) hk1 hFc hP1 hD1
        generalize H1 = H at hP hS ⊢
        have hP : va_P (dC, dI) classes [(oG, .inr (2, [.int wid, .int hig, .ref aK, .ref aW])), (aK, .inl (cI, 64, .inl cag)), (aW, .inl (cI, 5, .inl wan1))] H := hP
        have hD : va_D A [(oG, .inr (2, [.int wid, .int hig, .ref aK, .ref aW])), (aK, .inl (cI, 64, .inl cag)), (aW, .inl (cI, 5, .inl wan1))] := hD
        refine lv_istore (lv' := [(9, .int r38), (0, .ref oG), (1, .int 1), (2, .int p2), (3, .int p3), (4, .int p4), (5, .int wid), (6, .int x6), (7, .int x7), (8, .int x8)]) hx hb d_Grid_walkRow_41 hl (by decide) rfl (fun ls hl => ?_)
        refine lv_iload hx hb d_Grid_walkRow_43 (lv_at hl 9 rfl) ?_
        refine lv_iload hx hb d_Grid_walkRow_45 (lv_at hl 6 rfl) ?_
        refine xi_icmp_eq (tgt := 63) hx hb e8 ew d_Grid_walkRow_47 (by decide) (fun c47 => ?_) (fun c47 => ?_)
        · refine lv_iload hx hb d_Grid_walkRow_63 (lv_at hl 7 rfl) ?_
          refine lv_iload hx hb d_Grid_walkRow_65 (lv_at hl 5 rfl) ?_
          refine xi_icmp_ne (tgt := 82) hx hb e6 (rfl) d_Grid_walkRow_67 (by decide) (fun c67 => ?_) (fun c67 => ?_)
          · obtain ⟨v82, ev82⟩ : ∃ y : Int32, y = (x6 + 1) := ⟨_, rfl⟩
            have fv82 : v82.toInt = ((G.length : Int) + 1) := by rw [ev82]; exact xi_add e6 (show (1 : Int32).toInt = 1 by decide) (by omega) (by omega)
            refine lv_iinc (v := v82) (lv' := [(6, .int v82), (9, .int r38), (0, .ref oG), (1, .int 1), (2, .int p2), (3, .int p3), (4, .int p4), (5, .int wid), (7, .int x7), (8, .int x8)]) hx hb d_Grid_walkRow_82 hl (k := 7) rfl (by rw [ev82]; rfl) (by decide) rfl (fun ls hl => ?_)
            refine lv_iload hx hb d_Grid_walkRow_85 (lv_at hl 9 rfl) ?_
            refine lv_istore (lv' := [(7, .int x8), (6, .int v82), (9, .int r38), (0, .ref oG), (1, .int 1), (2, .int p2), (3, .int p3), (4, .int p4), (5, .int wid), (8, .int x8)]) hx hb d_Grid_walkRow_87 hl (by decide) rfl (fun ls hl => ?_)
            obtain ⟨v89, ev89⟩ : ∃ y : Int32, y = (x8 + 1) := ⟨_, rfl⟩
            have fv89 : v89.toInt = (((tt + 1 : Nat) : Int) + 1) := by rw [ev89]; exact xi_add e8 (show (1 : Int32).toInt = 1 by decide) (by omega) (by omega)
            refine lv_iinc (v := v89) (lv' := [(8, .int v89), (7, .int x8), (6, .int v82), (9, .int r38), (0, .ref oG), (1, .int 1), (2, .int p2), (3, .int p3), (4, .int p4), (5, .int wid)]) hx hb d_Grid_walkRow_89 hl (k := 9) rfl (by rw [ev89]; rfl) (by decide) rfl (fun ls hl => ?_)
            refine lv_goto (tgt := 26) hx hb d_Grid_walkRow_92 (by decide) ?_
            have hrow := gd_row_y (th := (gd_a wN hN cag q)) (len := wN) (t := tt) (Or.inl (by omega))
            exact ih26 (tt + 1) (G ++ [(gd_la q ((gd_row (gd_a wN hN cag q) wN tt).2, tt + 1, (gd_a wN hN cag q) (gd_row (gd_a wN hN cag q) wN tt).2))]) v82 x8 v89 wan1 (by omega) (by omega) (by rw [hrow, hG, List.map_append, ← List.append_assoc]; rfl) (by rw [List.length_append, List.length_singleton]; omega) (by rw [hrow]; exact e8) (by omega) (gd_K_skip hKK (by omega)) _ _ hP hD hS ls (lv_sub hl [4, 5, 6, 7, 8, 9, 2, 1, 0] rfl)
          · refine lv_aload_n hx hb d_Grid_walkRow_70 rfl (lv_at hl 1 rfl) ?_
            refine lv_iload_n hx hb d_Grid_walkRow_71 rfl (lv_at hl 2 rfl) ?_
            refine lv_iload_n hx hb d_Grid_walkRow_72 rfl (lv_at hl 3 rfl) ?_
            refine lv_iload hx hb d_Grid_walkRow_73 (lv_at hl 8 rfl) ?_
            refine lv_iload hx hb d_Grid_walkRow_75 (lv_at hl 9 rfl) ?_
            refine lv_iload hx hb d_Grid_walkRow_77 (lv_at hl 0 rfl) ?_
            have hPc := hP.sub (ws' := [(oG, .inr (2, [.int wid, .int hig, .ref aK, .ref aW])), (aK, .inl (cI, 64, .inl cag)), (aW, .inl (cI, 5, .inl wan1))]) [0, 1, 2] rfl
            have hDc := hD.sub (ws' := [(oG, .inr (2, [.int wid, .int hig, .ref aK, .ref aW])), (aK, .inl (cI, 64, .inl cag)), (aW, .inl (cI, 5, .inl wan1))]) [0, 1, 2] (by decide) rfl
            have hFc := va_free (wc := [(oG, .inr (2, [.int wid, .int hig, .ref aK, .ref aW])), (aK, .inl (cI, 64, .inl cag)), (aW, .inl (cI, 5, .inl wan1))]) hD hS hA [0, 1, 2] rfl
            refine va_callv (va_runV (As := [.int 1, .int p2, .int x7, .int x8, .int r38]) (rest := []) ⟨hx, hb, hml, hown, hts⟩ (k_Grid_keepLine_a l dC dI cI cZ oG aK aW wid hig cag wan1 H.size p2 x7 x8 r38 wN hN ew eh hw1 hh1) (cwV 5 hts g_Grid_walkRow_Grid_keepLine rfl rfl rfl (by decide +kernel) ⟨Nat.le_of_ble_eq_true rfl, Nat.le_of_ble_eq_true rfl⟩) ⟨fun a U g mk q => by obtain ⟨q0, q1, qP, qK, qD⟩ := q; exact ⟨q0, q1, qP, va_K.moved (u := U) (U := U.calling g mk a) (Vm.Alike.refl U.vm) qK, qD⟩, va_recv hK hPc (ci := 2) (q0 := 0) rfl rfl, fun U hU hW => ⟨rfl, by rw [hU], by rw [hU]; exact hPc, va_K.moved hW.alike hK, hDc.weaken (fun _ _ _ _ => trivial)⟩⟩ rfl rfl hl.1 rfl (lv_room (Nat.le_of_ble_eq_true rfl)) d_Grid_walkRow_79 ⟨Nat.le_of_ble_eq_true rfl, Nat.le_of_ble_eq_true rfl⟩) hS (fun q _ h => hFc q h) hFc (fun u t H1 locs ht hvm hw hB hz1 hk1 hS => ?_)
            obtain ⟨wan_79, rfl⟩ : ∃ z, z = u := ⟨_, rfl⟩
            have w79 : wan_79 0 = x7 ∧ wan_79 1 = p2 ∧ wan_79 2 = x8 ∧ wan_79 3 = p2 ∧ ((r38.toInt = 0 ∧ (wan_79 4).toInt = 0) ∨ (¬ r38.toInt = 0 ∧ (wan_79 4).toInt = 1)) := hw
            obtain ⟨hP1, hK1, hD1⟩ := hB
            rw [ht] at hP1
            obtain ⟨hP, hD⟩ := va_join (wr := []) (w1 := [(oG, .inr (2, [.int wid, .int hig, .ref aK, .ref aW])), (aK, .inl (cI, 64, .inl cag)), (aW, .inl (cI, 5, .inl wan_79))]) hP hD [0, 1, 2] [] rfl rfl (by decide) (by decide) hk1 hFc hP1 hD1
            generalize H1 = H at hP hS ⊢
            have hP : va_P (dC, dI) classes [(oG, .inr (2, [.int wid, .int hig, .ref aK, .ref aW])), (aK, .inl (cI, 64, .inl cag)), (aW, .inl (cI, 5, .inl wan_79))] H := hP
            have hD : va_D A [(oG, .inr (2, [.int wid, .int hig, .ref aK, .ref aW])), (aK, .inl (cI, 64, .inl cag)), (aW, .inl (cI, 5, .inl wan_79))] := hD
            obtain ⟨v82, ev82⟩ : ∃ y : Int32, y = (x6 + 1) := ⟨_, rfl⟩
            have fv82 : v82.toInt = ((G.length : Int) + 1) := by rw [ev82]; exact xi_add e6 (show (1 : Int32).toInt = 1 by decide) (by omega) (by omega)
            refine lv_iinc (v := v82) (lv' := [(6, .int v82), (9, .int r38), (0, .ref oG), (1, .int 1), (2, .int p2), (3, .int p3), (4, .int p4), (5, .int wid), (7, .int x7), (8, .int x8)]) hx hb d_Grid_walkRow_82 hl (k := 7) rfl (by rw [ev82]; rfl) (by decide) rfl (fun ls hl => ?_)
            refine lv_iload hx hb d_Grid_walkRow_85 (lv_at hl 9 rfl) ?_
            refine lv_istore (lv' := [(7, .int x8), (6, .int v82), (9, .int r38), (0, .ref oG), (1, .int 1), (2, .int p2), (3, .int p3), (4, .int p4), (5, .int wid), (8, .int x8)]) hx hb d_Grid_walkRow_87 hl (by decide) rfl (fun ls hl => ?_)
            obtain ⟨v89, ev89⟩ : ∃ y : Int32, y = (x8 + 1) := ⟨_, rfl⟩
            have fv89 : v89.toInt = (((tt + 1 : Nat) : Int) + 1) := by rw [ev89]; exact xi_add e8 (show (1 : Int32).toInt = 1 by decide) (by omega) (by omega)
            refine lv_iinc (v := v89) (lv' := [(8, .int v89), (7, .int x8), (6, .int v82), (9, .int r38), (0, .ref oG), (1, .int 1), (2, .int p2), (3, .int p3), (4, .int p4), (5, .int wid)]) hx hb d_Grid_walkRow_89 hl (k := 9) rfl (by rw [ev89]; rfl) (by decide) rfl (fun ls hl => ?_)
            refine lv_goto (tgt := 26) hx hb d_Grid_walkRow_92 (by decide) ?_
            have hrow := gd_row_y (th := (gd_a wN hN cag q)) (len := wN) (t := tt) (Or.inl (by omega))
            have hput : gd_is wan_79 (gd_la q ((gd_row (gd_a wN hN cag q) wN tt).2, tt + 1, (gd_a wN hN cag q) (gd_row (gd_a wN hN cag q) wN tt).2)) := gd_hput_a w38 w79 e7 eq e8
            exact ih26 (tt + 1) (G ++ [(gd_la q ((gd_row (gd_a wN hN cag q) wN tt).2, tt + 1, (gd_a wN hN cag q) (gd_row (gd_a wN hN cag q) wN tt).2))]) v82 x8 v89 wan_79 (by omega) (by omega) (by rw [hrow, hG, List.map_append, ← List.append_assoc]; rfl) (by rw [List.length_append, List.length_singleton]; omega) (by rw [hrow]; exact e8) (by omega) (gd_K_put hput (by omega)) _ _ hP hD hS ls (lv_sub hl [4, 5, 6, 7, 8, 9, 2, 1, 0] rfl)
        · refine lv_aload_n hx hb d_Grid_walkRow_50 rfl (lv_at hl 1 rfl) ?_
          refine lv_iload_n hx hb d_Grid_walkRow_51 rfl (lv_at hl 2 rfl) ?_
          refine lv_iload_n hx hb d_Grid_walkRow_52 rfl (lv_at hl 3 rfl) ?_
          refine lv_iload hx hb d_Grid_walkRow_53 (lv_at hl 9 rfl) ?_
          have hPc := hP.sub (ws' := [(oG, .inr (2, [.int wid, .int hig, .ref aK, .ref aW])), (aK, .inl (cI, 64, .inl cag)), (aW, .inl (cI, 5, .inl wan1))]) [0, 1, 2] rfl
          have hDc := hD.sub (ws' := [(oG, .inr (2, [.int wid, .int hig, .ref aK, .ref aW])), (aK, .inl (cI, 64, .inl cag)), (aW, .inl (cI, 5, .inl wan1))]) [0, 1, 2] (by decide) rfl
          have hFc := va_free (wc := [(oG, .inr (2, [.int wid, .int hig, .ref aK, .ref aW])), (aK, .inl (cI, 64, .inl cag)), (aW, .inl (cI, 5, .inl wan1))]) hD hS hA [0, 1, 2] rfl
          refine va_calli (va_runV (As := [.int 1, .int p2, .int x8]) (rest := []) ⟨hx, hb, hml, hown, hts⟩ (k_Grid_isThick_a l dC dI cI cZ oG aK aW wid hig cag wan1 H.size p2 x8 wN hN q (tt + 1) ew eh hw1 hh1 eq e8 (by omega) hq) (cwV 3 hts g_Grid_walkRow_Grid_isThick rfl rfl rfl (by decide +kernel) ⟨Nat.le_of_ble_eq_true rfl, Nat.le_of_ble_eq_true rfl⟩) ⟨fun a U g mk q => by obtain ⟨q0, q1, qP, qK, qD⟩ := q; exact ⟨q0, q1, qP, va_K.moved (u := U) (U := U.calling g mk a) (Vm.Alike.refl U.vm) qK, qD⟩, va_recv hK hPc (ci := 2) (q0 := 0) rfl rfl, fun U hU hW => ⟨rfl, by rw [hU], by rw [hU]; exact hPc, va_K.moved hW.alike hK, hDc.weaken (fun _ _ _ _ => trivial)⟩⟩ rfl rfl hl.1 rfl (lv_room (Nat.le_of_ble_eq_true rfl)) d_Grid_walkRow_55 ⟨Nat.le_of_ble_eq_true rfl, Nat.le_of_ble_eq_true rfl⟩) hS (fun q _ h => hFc q h) hFc (fun r55 u t H1 locs ht hvm hw hB hz1 hk1 hS => ?_)
          have w55 : (r55.toInt = 1 ∧ gd_a wN hN cag q (tt + 1) = true) ∨ (r55.toInt = 0 ∧ gd_a wN hN cag q (tt + 1) = false) := hw
          obtain ⟨hP1, hK1, hD1⟩ := hB
          rw [ht] at hP1
          obtain ⟨hP, hD⟩ := va_join (wr := []) (w1 := [(oG, .inr (2, [.int wid, .int hig, .ref aK, .ref aW])), (aK, .inl (cI, 64, .inl cag)), (aW, .inl (cI, 5, .inl wan1))]) hP hD [0, 1, 2] [] rfl rfl (by decide) (by decide) hk1 hFc hP1 hD1
          generalize H1 = H at hP hS ⊢
          have hP : va_P (dC, dI) classes [(oG, .inr (2, [.int wid, .int hig, .ref aK, .ref aW])), (aK, .inl (cI, 64, .inl cag)), (aW, .inl (cI, 5, .inl wan1))] H := hP
          have hD : va_D A [(oG, .inr (2, [.int wid, .int hig, .ref aK, .ref aW])), (aK, .inl (cI, 64, .inl cag)), (aW, .inl (cI, 5, .inl wan1))] := hD
          refine lv_iload hx hb d_Grid_walkRow_58 (lv_at hl 0 rfl) ?_
          refine xi_icmp_eq (tgt := 89) hx hb (rfl) (rfl) d_Grid_walkRow_60 (by decide) (fun c60 => ?_) (fun c60 => ?_)
          · obtain ⟨v89, ev89⟩ : ∃ y : Int32, y = (x8 + 1) := ⟨_, rfl⟩
            have fv89 : v89.toInt = (((tt + 1 : Nat) : Int) + 1) := by rw [ev89]; exact xi_add e8 (show (1 : Int32).toInt = 1 by decide) (by omega) (by omega)
            refine lv_iinc (v := v89) (lv' := [(8, .int v89), (9, .int r38), (0, .ref oG), (1, .int 1), (2, .int p2), (3, .int p3), (4, .int p4), (5, .int wid), (6, .int x6), (7, .int x7)]) hx hb d_Grid_walkRow_89 hl (k := 9) rfl (by rw [ev89]; rfl) (by decide) rfl (fun ls hl => ?_)
            refine lv_goto (tgt := 26) hx hb d_Grid_walkRow_92 (by decide) ?_
            have hrow : gd_row (gd_a wN hN cag q) wN (tt + 1) = gd_row (gd_a wN hN cag q) wN tt := gd_row_n (by omega) ((gd_bb w38 w55).mp c60)
            exact ih26 (tt + 1) G x6 x7 v89 wan1 (by omega) (by omega) (by rw [hrow]; exact hG) (by omega) (by rw [hrow]; exact e7) (by omega) hKK _ _ hP hD hS ls (lv_sub hl [2, 3, 4, 5, 6, 7, 8, 9, 0] rfl)
          · refine lv_iload hx hb d_Grid_walkRow_63 (lv_at hl 7 rfl) ?_
            refine lv_iload hx hb d_Grid_walkRow_65 (lv_at hl 5 rfl) ?_
            refine xi_icmp_ne (tgt := 82) hx hb e6 (rfl) d_Grid_walkRow_67 (by decide) (fun c67 => ?_) (fun c67 => ?_)
            · obtain ⟨v82, ev82⟩ : ∃ y : Int32, y = (x6 + 1) := ⟨_, rfl⟩
              have fv82 : v82.toInt = ((G.length : Int) + 1) := by rw [ev82]; exact xi_add e6 (show (1 : Int32).toInt = 1 by decide) (by omega) (by omega)
              refine lv_iinc (v := v82) (lv' := [(6, .int v82), (9, .int r38), (0, .ref oG), (1, .int 1), (2, .int p2), (3, .int p3), (4, .int p4), (5, .int wid), (7, .int x7), (8, .int x8)]) hx hb d_Grid_walkRow_82 hl (k := 7) rfl (by rw [ev82]; rfl) (by decide) rfl (fun ls hl => ?_)
              refine lv_iload hx hb d_Grid_walkRow_85 (lv_at hl 9 rfl) ?_
              refine lv_istore (lv' := [(7, .int x8), (6, .int v82), (9, .int r38), (0, .ref oG), (1, .int 1), (2, .int p2), (3, .int p3), (4, .int p4), (5, .int wid), (8, .int x8)]) hx hb d_Grid_walkRow_87 hl (by decide) rfl (fun ls hl => ?_)
              obtain ⟨v89, ev89⟩ : ∃ y : Int32, y = (x8 + 1) := ⟨_, rfl⟩
              have fv89 : v89.toInt = (((tt + 1 : Nat) : Int) + 1) := by rw [ev89]; exact xi_add e8 (show (1 : Int32).toInt = 1 by decide) (by omega) (by omega)
              refine lv_iinc (v := v89) (lv' := [(8, .int v89), (7, .int x8), (6, .int v82), (9, .int r38), (0, .ref oG), (1, .int 1), (2, .int p2), (3, .int p3), (4, .int p4), (5, .int wid)]) hx hb d_Grid_walkRow_89 hl (k := 9) rfl (by rw [ev89]; rfl) (by decide) rfl (fun ls hl => ?_)
              refine lv_goto (tgt := 26) hx hb d_Grid_walkRow_92 (by decide) ?_
              have hrow := gd_row_y (th := (gd_a wN hN cag q)) (len := wN) (t := tt) (Or.inr (fun z => c60 ((gd_bb w38 w55).mpr z)))
              exact ih26 (tt + 1) (G ++ [(gd_la q ((gd_row (gd_a wN hN cag q) wN tt).2, tt + 1, (gd_a wN hN cag q) (gd_row (gd_a wN hN cag q) wN tt).2))]) v82 x8 v89 wan1 (by omega) (by omega) (by rw [hrow, hG, List.map_append, ← List.append_assoc]; rfl) (by rw [List.length_append, List.length_singleton]; omega) (by rw [hrow]; exact e8) (by omega) (gd_K_skip hKK (by omega)) _ _ hP hD hS ls (lv_sub hl [4, 5, 6, 7, 8, 9, 2, 1, 0] rfl)
            · refine lv_aload_n hx hb d_Grid_walkRow_70 rfl (lv_at hl 1 rfl) ?_
              refine lv_iload_n hx hb d_Grid_walkRow_71 rfl (lv_at hl 2 rfl) ?_
              refine lv_iload_n hx hb d_Grid_walkRow_72 rfl (lv_at hl 3 rfl) ?_
              refine lv_iload hx hb d_Grid_walkRow_73 (lv_at hl 8 rfl) ?_
              refine lv_iload hx hb d_Grid_walkRow_75 (lv_at hl 9 rfl) ?_
              refine lv_iload hx hb d_Grid_walkRow_77 (lv_at hl 0 rfl) ?_
              have hPc := hP.sub (ws' := [(oG, .inr (2, [.int wid, .int hig, .ref aK, .ref aW])), (aK, .inl (cI, 64, .inl cag)), (aW, .inl (cI, 5, .inl wan1))]) [0, 1, 2] rfl
              have hDc := hD.sub (ws' := [(oG, .inr (2, [.int wid, .int hig, .ref aK, .ref aW])), (aK, .inl (cI, 64, .inl cag)), (aW, .inl (cI, 5, .inl wan1))]) [0, 1, 2] (by decide) rfl
              have hFc := va_free (wc := [(oG, .inr (2, [.int wid, .int hig, .ref aK, .ref aW])), (aK, .inl (cI, 64, .inl cag)), (aW, .inl (cI, 5, .inl wan1))]) hD hS hA [0, 1, 2] rfl
              refine va_callv (va_runV (As := [.int 1, .int p2, .int x7, .int x8, .int r38]) (rest := []) ⟨hx, hb, hml, hown, hts⟩ (k_Grid_keepLine_a l dC dI cI cZ oG aK aW wid hig cag wan1 H.size p2 x7 x8 r38 wN hN ew eh hw1 hh1) (cwV 5 hts g_Grid_walkRow_Grid_keepLine rfl rfl rfl (by decide +kernel) ⟨Nat.le_of_ble_eq_true rfl, Nat.le_of_ble_eq_true rfl⟩) ⟨fun a U g mk q => by obtain ⟨q0, q1, qP, qK, qD⟩ := q; exact ⟨q0, q1, qP, va_K.moved (u := U) (U := U.calling g mk a) (Vm.Alike.refl U.vm) qK, qD⟩, va_recv hK hPc (ci := 2) (q0 := 0) rfl rfl, fun U hU hW => ⟨rfl, by rw [hU], by rw [hU]; exact hPc, va_K.moved hW.alike hK, hDc.weaken (fun _ _ _ _ => trivial)⟩⟩ rfl rfl hl.1 rfl (lv_room (Nat.le_of_ble_eq_true rfl)) d_Grid_walkRow_79 ⟨Nat.le_of_ble_eq_true rfl, Nat.le_of_ble_eq_true rfl⟩) hS (fun q _ h => hFc q h) hFc (fun u t H1 locs ht hvm hw hB hz1 hk1 hS => ?_)
              obtain ⟨wan_79, rfl⟩ : ∃ z, z = u := ⟨_, rfl⟩
              have w79 : wan_79 0 = x7 ∧ wan_79 1 = p2 ∧ wan_79 2 = x8 ∧ wan_79 3 = p2 ∧ ((r38.toInt = 0 ∧ (wan_79 4).toInt = 0) ∨ (¬ r38.toInt = 0 ∧ (wan_79 4).toInt = 1)) := hw
              obtain ⟨hP1, hK1, hD1⟩ := hB
              rw [ht] at hP1
              obtain ⟨hP, hD⟩ := va_join (wr := []) (w1 := [(oG, .inr (2, [.int wid, .int hig, .ref aK, .ref aW])), (aK, .inl (cI, 64, .inl cag)), (aW, .inl (cI, 5, .inl wan_79))]) hP hD [0, 1, 2] [] rfl rfl (by decide) (by decide) hk1 hFc hP1 hD1
              generalize H1 = H at hP hS ⊢
              have hP : va_P (dC, dI) classes [(oG, .inr (2, [.int wid, .int hig, .ref aK, .ref aW])), (aK, .inl (cI, 64, .inl cag)), (aW, .inl (cI, 5, .inl wan_79))] H := hP
              have hD : va_D A [(oG, .inr (2, [.int wid, .int hig, .ref aK, .ref aW])), (aK, .inl (cI, 64, .inl cag)), (aW, .inl (cI, 5, .inl wan_79))] := hD
              obtain ⟨v82, ev82⟩ : ∃ y : Int32, y = (x6 + 1) := ⟨_, rfl⟩
              have fv82 : v82.toInt = ((G.length : Int) + 1) := by rw [ev82]; exact xi_add e6 (show (1 : Int32).toInt = 1 by decide) (by omega) (by omega)
              refine lv_iinc (v := v82) (lv' := [(6, .int v82), (9, .int r38), (0, .ref oG), (1, .int 1), (2, .int p2), (3, .int p3), (4, .int p4), (5, .int wid), (7, .int x7), (8, .int x8)]) hx hb d_Grid_walkRow_82 hl (k := 7) rfl (by rw [ev82]; rfl) (by decide) rfl (fun ls hl => ?_)
              refine lv_iload hx hb d_Grid_walkRow_85 (lv_at hl 9 rfl) ?_
              refine lv_istore (lv' := [(7, .int x8), (6, .int v82), (9, .int r38), (0, .ref oG), (1, .int 1), (2, .int p2), (3, .int p3), (4, .int p4), (5, .int wid), (8, .int x8)]) hx hb d_Grid_walkRow_87 hl (by decide) rfl (fun ls hl => ?_)
              obtain ⟨v89, ev89⟩ : ∃ y : Int32, y = (x8 + 1) := ⟨_, rfl⟩
              have fv89 : v89.toInt = (((tt + 1 : Nat) : Int) + 1) := by rw [ev89]; exact xi_add e8 (show (1 : Int32).toInt = 1 by decide) (by omega) (by omega)
              refine lv_iinc (v := v89) (lv' := [(8, .int v89), (7, .int x8), (6, .int v82), (9, .int r38), (0, .ref oG), (1, .int 1), (2, .int p2), (3, .int p3), (4, .int p4), (5, .int wid)]) hx hb d_Grid_walkRow_89 hl (k := 9) rfl (by rw [ev89]; rfl) (by decide) rfl (fun ls hl => ?_)
              refine lv_goto (tgt := 26) hx hb d_Grid_walkRow_92 (by decide) ?_
              have hrow := gd_row_y (th := (gd_a wN hN cag q)) (len := wN) (t := tt) (Or.inr (fun z => c60 ((gd_bb w38 w55).mpr z)))
              have hput : gd_is wan_79 (gd_la q ((gd_row (gd_a wN hN cag q) wN tt).2, tt + 1, (gd_a wN hN cag q) (gd_row (gd_a wN hN cag q) wN tt).2)) := gd_hput_a w38 w79 e7 eq e8
              exact ih26 (tt + 1) (G ++ [(gd_la q ((gd_row (gd_a wN hN cag q) wN tt).2, tt + 1, (gd_a wN hN cag q) (gd_row (gd_a wN hN cag q) wN tt).2))]) v82 x8 v89 wan_79 (by omega) (by omega) (by rw [hrow, hG, List.map_append, ← List.append_assoc]; rfl) (by rw [List.length_append, List.length_singleton]; omega) (by rw [hrow]; exact e8) (by omega) (gd_K_put hput (by omega)) _ _ hP hD hS ls (lv_sub hl [4, 5, 6, 7, 8, 9, 2, 1, 0] rfl)
  refine lv_iload_n hx hb d_Grid_walkRow_0 rfl (lv_at hl 1 rfl) ?_
  refine xi_if_eq (tgt := 11) hx hb (show (1 : Int32).toInt = 1 by decide) d_Grid_walkRow_1 (by decide) (fun c1 => absurd c1 (by decide)) (fun c1 => ?_)
  refine lv_aload_n hx hb d_Grid_walkRow_4 rfl (lv_at hl 0 rfl) ?_
  refine va_get (D := (dC, dI)) (ci := 2) (v := .int wid) (C := R_Grid) (T := F_Grid) (N := 4) hx hb hts hw_Grid hown hK hP 0 rfl rfl 0 (by decide) (hts (.fieldLink R_Grid 9 "PageForms$Grid" "wide" "I") (by decide +kernel)) (fun _ h9 => h9) rfl d_Grid_walkRow_5 ?_
  refine lv_goto (tgt := 15) hx hb d_Grid_walkRow_8 (by decide) ?_
  refine lv_istore (lv' := [(5, .int wid), (0, .ref oG), (1, .int 1), (2, .int p2), (3, .int p3), (4, .int p4)]) hx hb d_Grid_walkRow_15 hl (by decide) rfl (fun ls hl => ?_)
  refine lv_iload_n hx hb d_Grid_walkRow_17 rfl (lv_at hl 4 rfl) ?_
  refine lv_istore (lv' := [(6, .int p3), (5, .int wid), (0, .ref oG), (1, .int 1), (2, .int p2), (3, .int p3), (4, .int p4)]) hx hb d_Grid_walkRow_18 hl (by decide) rfl (fun ls hl => ?_)
  refine lv_iconst (v := 0) hx hb d_Grid_walkRow_20 (by decide) ?_
  refine lv_istore (lv' := [(7, .int 0), (6, .int p3), (5, .int wid), (0, .ref oG), (1, .int 1), (2, .int p2), (3, .int p3), (4, .int p4)]) hx hb d_Grid_walkRow_21 hl (by decide) rfl (fun ls hl => ?_)
  refine lv_iconst (v := 1) hx hb d_Grid_walkRow_23 (by decide) ?_
  refine lv_istore (lv' := [(8, .int 1), (7, .int 0), (6, .int p3), (5, .int wid), (0, .ref oG), (1, .int 1), (2, .int p2), (3, .int p3), (4, .int p4)]) hx hb d_Grid_walkRow_24 hl (by decide) rfl (fun ls hl => ?_)
  exact loop26 (wN + 1) 0 G0 p3 0 1 wan (by omega) (by omega) (by rw [gd_row]; simp) e3 (show (0 : Int32).toInt = ((0 : Nat) : Int) by decide) (by decide) hK0 _ _ hP hD hS ls (lv_sub hl [4, 5, 6, 7, 8, 3, 2, 1, 0] rfl)

set_option maxHeartbeats 4000000 in
set_option maxRecDepth 100000 in
theorem k_Grid_walkRow_s (l : Launch) (dC : Nat → ClassId) (dI : Nat → Nat → Nat) (cI cZ : ClassId) (oG : Nat) (aK : Nat) (aW : Nat) (wid : Int32) (hig : Int32) (cag : Nat → Int32) (wan : Nat → Int32) (sz : Nat) (p2 : Int32) (p3 : Int32) (p4 : Int32) (wN : Nat) (hN : Nat) (q : Nat) (G0 : List gd_L) (ew : wid.toInt = (wN : Int)) (eh : hig.toInt = (hN : Int)) (hw1 : 1 ≤ wN ∧ wN ≤ 8) (hh1 : 1 ≤ hN ∧ hN ≤ 8) (eq : p2.toInt = (q : Int)) (hq : q ≤ wN) (e3 : p3.toInt = (G0.length : Int)) (hG0 : G0.length ≤ 1000) (hK0 : gd_K p4 wan G0) : Met l y_Grid_walkRow w_Grid_walkRow ({ frames := 1, cells := 0, slots := 0, locals := 26 }) (va_Pc [.ref oG, .int 0, .int p2, .int p3, .int p4] (fun U => U.heap.size = sz ∧ va_P (dC, dI) classes [(oG, .inr (2, [.int wid, .int hig, .ref aK, .ref aW])), (aK, .inl (cI, 64, .inl cag)), (aW, .inl (cI, 5, .inl wan))] U.heap ∧ va_K (dC, dI) classes [(cI, .int), (cZ, .boolean)] U ∧ va_D (fun _ => True) [(oG, .inr (2, [.int wid, .int hig, .ref aK, .ref aW])), (aK, .inl (cI, 64, .inl cag)), (aW, .inl (cI, 5, .inl wan))])) (va_Qi (fun (r : Int32) (u : (Nat → Int32)) => r.toInt = ((G0 ++ (gd_row (gd_s wN hN cag q) hN hN).1.map (gd_ls q)).length : Int) ∧ gd_K p4 u (G0 ++ (gd_row (gd_s wN hN cag q) hN hN).1.map (gd_ls q))) (fun (u : (Nat → Int32)) (t : State) => va_P (dC, dI) classes [(oG, .inr (2, [.int wid, .int hig, .ref aK, .ref aW])), (aK, .inl (cI, 64, .inl cag)), (aW, .inl (cI, 5, .inl u))] t.heap ∧ va_K (dC, dI) classes [(cI, .int), (cZ, .boolean)] t ∧ va_D (va_A [(oG, .inr (2, [.int wid, .int hig, .ref aK, .ref aW])), (aK, .inl (cI, 64, .inl cag)), (aW, .inl (cI, 5, .inl wan))] sz) [(oG, .inr (2, [.int wid, .int hig, .ref aK, .ref aW])), (aK, .inl (cI, 64, .inl cag)), (aW, .inl (cI, 5, .inl u))]) (va_A [(oG, .inr (2, [.int wid, .int hig, .ref aK, .ref aW])), (aK, .inl (cI, 64, .inl cag)), (aW, .inl (cI, 5, .inl wan))] sz)) 0 0 (va_A [(oG, .inr (2, [.int wid, .int hig, .ref aK, .ref aW])), (aK, .inl (cI, 64, .inl cag)), (aW, .inl (cI, 5, .inl wan))] sz) := by
  refine Met.ofW (cc := b_Grid_walkRow) (maxL := 10) (ret := (some .int)) (by decide) rfl ?_
  intro p e s m args below meth c s₁ B hml hv
  obtain ⟨rfl, hsz, hP, hK, hD0⟩ := hv
  have hx := B.exec
  have hb := B.bytes
  have hr := B.returns
  have hts := atoms_spec (ws := w_Grid_walkRow) B.pre
  have hown : s.vm.findClass R_Grid = some m.cls := findClass_of_methodNamed B.named
  have hlocks := B.notSynchronized
  have hw_Grid : ∀ w ∈ w_Grid, w ∈ w_Grid_walkRow := by decide +kernel
  subst hsz
  have hD := hD0.self (sz := s.heap.size)
  generalize hAe : va_A [(oG, .inr (2, [.int wid, .int hig, .ref aK, .ref aW])), (aK, .inl (cI, 64, .inl cag)), (aW, .inl (cI, 5, .inl wan))] s.heap.size = A at hD ⊢
  have hA : ∀ q : Nat, s.heap.size ≤ q → A q := fun q h => by rw [← hAe]; exact Or.inr h
  have hS : va_S A s.heap s.heap [] := va_S.rf
  have hP : va_P (dC, dI) classes [(oG, .inr (2, [.int wid, .int hig, .ref aK, .ref aW])), (aK, .inl (cI, 64, .inl cag)), (aW, .inl (cI, 5, .inl wan))] s.heap := hP
  have hl := lv_entry ([.ref oG, .int 0, .int p2, .int p3, .int p4]) (n := 10) (Nat.le_of_ble_eq_true rfl)
  rw [lg_entry_eq]
  generalize (lg_sl ([.ref oG, .int 0, .int p2, .int p3, .int p4]) ++ List.replicate (10 - (lg_sl ([.ref oG, .int 0, .int p2, .int p3, .int p4])).length) Slot.unset).toArray = ls at hl ⊢
  have hl : lv_has ls 10 [(0, .ref oG), (1, .int 0), (2, .int p2), (3, .int p3), (4, .int p4)] := hl
  have loop26 : ∀ (n26 : Nat) (tt : Nat) (G : List gd_L) (x6 : Int32) (x7 : Int32) (x8 : Int32) (wan1 : Nat → Int32), (hN - tt < n26) → (tt ≤ hN) → (G = G0 ++ (gd_row (gd_s wN hN cag q) hN tt).1.map (gd_ls q)) → (x6.toInt = (G.length : Int)) → (x7.toInt = (((gd_row (gd_s wN hN cag q) hN tt).2 : Nat) : Int)) → (x8.toInt = ((tt + 1 : Nat) : Int)) → (gd_K p4 wan1 G) → ∀ (H : Heap) (locs : List Loc), va_P (dC, dI) classes [(oG, .inr (2, [.int wid, .int hig, .ref aK, .ref aW])), (aK, .inl (cI, 64, .inl cag)), (aW, .inl (cI, 5, .inl wan1))] H → va_D A [(oG, .inr (2, [.int wid, .int hig, .ref aK, .ref aW])), (aK, .inl (cI, 64, .inl cag)), (aW, .inl (cI, 5, .inl wan1))] → va_S A s.heap H locs → ∀ (ls : Array Slot), lv_has ls 10 [(0, .ref oG), (1, .int 0), (2, .int p2), (3, .int p3), (4, .int p4), (5, .int hig), (6, .int x6), (7, .int x7), (8, .int x8)] → W p l e (headSpec w_Grid_walkRow ({ frames := 1, cells := 0, slots := 0, locals := 26 })).room s m ([.ref oG, .int 0, .int p2, .int p3, .int p4] : List Value).toArray below meth c H locs 0 0 (MQ below (va_Qi (fun (r : Int32) (u : (Nat → Int32)) => r.toInt = ((G0 ++ (gd_row (gd_s wN hN cag q) hN hN).1.map (gd_ls q)).length : Int) ∧ gd_K p4 u (G0 ++ (gd_row (gd_s wN hN cag q) hN hN).1.map (gd_ls q))) (fun (u : (Nat → Int32)) (t : State) => va_P (dC, dI) classes [(oG, .inr (2, [.int wid, .int hig, .ref aK, .ref aW])), (aK, .inl (cI, 64, .inl cag)), (aW, .inl (cI, 5, .inl u))] t.heap ∧ va_K (dC, dI) classes [(cI, .int), (cZ, .boolean)] t ∧ va_D (A) [(oG, .inr (2, [.int wid, .int hig, .ref aK, .ref aW])), (aK, .inl (cI, 64, .inl cag)), (aW, .inl (cI, 5, .inl u))]) (A)) ([.ref oG, .int 0, .int p2, .int p3, .int p4] : List Value).toArray s 0 0 A) (F0 m 26 ls []) := by
    intro n26
    induction n26 with
    | zero => intro tt G x6 x7 x8 wan1 hmz26; omega
    | succ n26 ih26 =>
      intro tt G x6 x7 x8 wan1 hmz26 ht0 hG e6 e7 e8 hKK H locs hP hD hS ls hl
      have hrl := gd_row_le (gd_s wN hN cag q) hN tt
      have hGl : G.length ≤ 1000 + tt := by rw [hG, List.length_append, List.length_map]; omega
      refine lv_iload hx hb d_Grid_walkRow_26 (lv_at hl 8 rfl) ?_
      refine lv_iload hx hb d_Grid_walkRow_28 (lv_at hl 5 rfl) ?_
      refine xi_icmp_gt (tgt := 95) hx hb e8 eh d_Grid_walkRow_30 (by decide) (fun c30 => ?_) (fun c30 => ?_)
      · refine lv_iload hx hb d_Grid_walkRow_95 (lv_at hl 6 rfl) ?_
        have htN : tt = hN := by omega
        rw [htN] at hG
        exact W.iret (v := x6) hx hb hr (fun t ht hW => ⟨⟨x6, wan1, rfl, (show x6.toInt = ((G0 ++ (gd_row (gd_s wN hN cag q) hN hN).1.map (gd_ls q)).length : Int) ∧ gd_K p4 wan1 (G0 ++ (gd_row (gd_s wN hN cag q) hN hN).1.map (gd_ls q)) from ⟨by rw [← hG]; exact e6, by rw [← hG]; exact hKK⟩), by rw [ht]; exact hP, va_K.moved hW.alike hK, hD⟩, hS.F ht⟩) hS.2.2 d_Grid_walkRow_97
      · refine lv_aload_n hx hb d_Grid_walkRow_33 rfl (lv_at hl 0 rfl) ?_
        refine lv_iload_n hx hb d_Grid_walkRow_34 rfl (lv_at hl 1 rfl) ?_
        refine lv_iload_n hx hb d_Grid_walkRow_35 rfl (lv_at hl 2 rfl) ?_
        refine lv_iload hx hb d_Grid_walkRow_36 (lv_at hl 7 rfl) ?_
        have hPc := hP.sub (ws' := [(oG, .inr (2, [.int wid, .int hig, .ref aK, .ref aW])), (aK, .inl (cI, 64, .inl cag)), (aW, .inl (cI, 5, .inl wan1))]) [0, 1, 2] rfl
        have hDc := hD.sub (ws' := [(oG, .inr (2, [.int wid, .int hig, .ref aK, .ref aW])), (aK, .inl (cI, 64, .inl cag)), (aW, .inl (cI, 5, .inl wan1))]) [0, 1, 2] (by decide) rfl
        have hFc := va_free (wc := [(oG, .inr (2, [.int wid, .int hig, .ref aK, .ref aW])), (aK, .inl (cI, 64, .inl cag)), (aW, .inl (cI, 5, .inl wan1))]) hD hS hA [0, 1, 2] rfl
        refine va_calli (va_runV (As := [.int 0, .int p2, .int x7]) (rest := []) ⟨hx, hb, hml, hown, hts⟩ (k_Grid_isThick_s l dC dI cI cZ oG aK aW wid hig cag wan1 H.size p2 x7 wN hN q ((gd_row (gd_s wN hN cag q) hN tt).2) ew eh hw1 hh1 eq e7 (by omega) hq) (cwV 3 hts g_Grid_walkRow_Grid_isThick rfl rfl rfl (by decide +kernel) ⟨Nat.le_of_ble_eq_true rfl, Nat.le_of_ble_eq_true rfl⟩) ⟨fun a U g mk q => by obtain ⟨q0, q1, qP, qK, qD⟩ := q; exact ⟨q0, q1, qP, va_K.moved (u := U) (U := U.calling g mk a) (Vm.Alike.refl U.vm) qK, qD⟩, va_recv hK hPc (ci := 2) (q0 := 0) rfl rfl, fun U hU hW => ⟨rfl, by rw [hU], by rw [hU]; exact hPc, va_K.moved hW.alike hK, hDc.weaken (fun _ _ _ _ => trivial)⟩⟩ rfl rfl hl.1 rfl (lv_room (Nat.le_of_ble_eq_true rfl)) d_Grid_walkRow_38 ⟨Nat.le_of_ble_eq_true rfl, Nat.le_of_ble_eq_true rfl⟩) hS (fun q _ h => hFc q h) hFc (fun r38 u t H1 locs ht hvm hw hB hz1 hk1 hS => ?_)
        have w38 : (r38.toInt = 1 ∧ gd_s wN hN cag q ((gd_row (gd_s wN hN cag q) hN tt).2) = true) ∨ (r38.toInt = 0 ∧ gd_s wN hN cag q ((gd_row (gd_s wN hN cag q) hN tt).2) = false) := hw
        obtain ⟨hP1, hK1, hD1⟩ := hB
        rw [ht] at hP1
        obtain ⟨hP, hD⟩ := va_join (wr := []) (w1 := [(oG, .inr (2, [.int wid, .int hig, .ref aK, .ref aW])), (aK, .inl (cI, 64, .inl cag)), (aW, .inl (cI, 5, .inl wan1))]) hP hD [0, 1, 2] [] rfl rfl (by decide) (by decide) hk1 hFc hP1 hD1
        generalize H1 = H at hP hS ⊢
        have hP : va_P (dC, dI) classes [(oG, .inr (2, [.int wid, .int hig, .ref aK, .ref aW])), (aK, .inl (cI, 64, .inl cag)), (aW, .inl (cI, 5, .inl wan1))] H := hP
        have hD : va_D A [(oG, .inr (2, [.int wid, .int hig, .ref aK, .ref aW])), (aK, .inl (cI, 64, .inl cag)), (aW, .inl (cI, 5, .inl wan1))] := hD
        refine lv_istore (lv' := [(9, .int r38), (0, .ref oG), (1, .int 0), (2, .int p2), (3, .int p3), (4, .int p4), (5, .int hig), (6, .int x6), (7, .int x7), (8, .int x8)]) hx hb d_Grid_walkRow_41 hl (by decide) rfl (fun ls hl => ?_)
        refine lv_iload hx hb d_Grid_walkRow_43 (lv_at hl 9 rfl) ?_
        refine lv_iload hx hb d_Grid_walkRow_45 (lv_at hl 6 rfl) ?_
        refine xi_icmp_eq (tgt := 63) hx hb e8 eh d_Grid_walkRow_47 (by decide) (fun c47 => ?_) (fun c47 => ?_)
        · refine lv_iload hx hb d_Grid_walkRow_63 (lv_at hl 7 rfl) ?_
          refine lv_iload hx hb d_Grid_walkRow_65 (lv_at hl 5 rfl) ?_
          refine xi_icmp_ne (tgt := 82) hx hb e6 (rfl) d_Grid_walkRow_67 (by decide) (fun c67 => ?_) (fun c67 => ?_)
          · obtain ⟨v82, ev82⟩ : ∃ y : Int32, y = (x6 + 1) := ⟨_, rfl⟩
            have fv82 : v82.toInt = ((G.length : Int) + 1) := by rw [ev82]; exact xi_add e6 (show (1 : Int32).toInt = 1 by decide) (by omega) (by omega)
            refine lv_iinc (v := v82) (lv' := [(6, .int v82), (9, .int r38), (0, .ref oG), (1, .int 0), (2, .int p2), (3, .int p3), (4, .int p4), (5, .int hig), (7, .int x7), (8, .int x8)]) hx hb d_Grid_walkRow_82 hl (k := 7) rfl (by rw [ev82]; rfl) (by decide) rfl (fun ls hl => ?_)
            refine lv_iload hx hb d_Grid_walkRow_85 (lv_at hl 9 rfl) ?_
            refine lv_istore (lv' := [(7, .int x8), (6, .int v82), (9, .int r38), (0, .ref oG), (1, .int 0), (2, .int p2), (3, .int p3), (4, .int p4), (5, .int hig), (8, .int x8)]) hx hb d_Grid_walkRow_87 hl (by decide) rfl (fun ls hl => ?_)
            obtain ⟨v89, ev89⟩ : ∃ y : Int32, y = (x8 + 1) := ⟨_, rfl⟩
            have fv89 : v89.toInt = (((tt + 1 : Nat) : Int) + 1) := by rw [ev89]; exact xi_add e8 (show (1 : Int32).toInt = 1 by decide) (by omega) (by omega)
            refine lv_iinc (v := v89) (lv' := [(8, .int v89), (7, .int x8), (6, .int v82), (9, .int r38), (0, .ref oG), (1, .int 0), (2, .int p2), (3, .int p3), (4, .int p4), (5, .int hig)]) hx hb d_Grid_walkRow_89 hl (k := 9) rfl (by rw [ev89]; rfl) (by decide) rfl (fun ls hl => ?_)
            refine lv_goto (tgt := 26) hx hb d_Grid_walkRow_92 (by decide) ?_
            have hrow := gd_row_y (th := (gd_s wN hN cag q)) (len := hN) (t := tt) (Or.inl (by omega))
            exact ih26 (tt + 1) (G ++ [(gd_ls q ((gd_row (gd_s wN hN cag q) hN tt).2, tt + 1, (gd_s wN hN cag q) (gd_row (gd_s wN hN cag q) hN tt).2))]) v82 x8 v89 wan1 (by omega) (by omega) (by rw [hrow, hG, List.map_append, ← List.append_assoc]; rfl) (by rw [List.length_append, List.length_singleton]; omega) (by rw [hrow]; exact e8) (by omega) (gd_K_skip hKK (by omega)) _ _ hP hD hS ls (lv_sub hl [4, 5, 6, 7, 8, 9, 2, 1, 0] rfl)
          · refine lv_aload_n hx hb d_Grid_walkRow_70 rfl (lv_at hl 1 rfl) ?_
            refine lv_iload_n hx hb d_Grid_walkRow_71 rfl (lv_at hl 2 rfl) ?_
            refine lv_iload_n hx hb d_Grid_walkRow_72 rfl (lv_at hl 3 rfl) ?_
            refine lv_iload hx hb d_Grid_walkRow_73 (lv_at hl 8 rfl) ?_
            refine lv_iload hx hb d_Grid_walkRow_75 (lv_at hl 9 rfl) ?_
            refine lv_iload hx hb d_Grid_walkRow_77 (lv_at hl 0 rfl) ?_
            have hPc := hP.sub (ws' := [(oG, .inr (2, [.int wid, .int hig, .ref aK, .ref aW])), (aK, .inl (cI, 64, .inl cag)), (aW, .inl (cI, 5, .inl wan1))]) [0, 1, 2] rfl
            have hDc := hD.sub (ws' := [(oG, .inr (2, [.int wid, .int hig, .ref aK, .ref aW])), (aK, .inl (cI, 64, .inl cag)), (aW, .inl (cI, 5, .inl wan1))]) [0, 1, 2] (by decide) rfl
            have hFc := va_free (wc := [(oG, .inr (2, [.int wid, .int hig, .ref aK, .ref aW])), (aK, .inl (cI, 64, .inl cag)), (aW, .inl (cI, 5, .inl wan1))]) hD hS hA [0, 1, 2] rfl
            refine va_callv (va_runV (As := [.int 0, .int p2, .int x7, .int x8, .int r38]) (rest := []) ⟨hx, hb, hml, hown, hts⟩ (k_Grid_keepLine_s l dC dI cI cZ oG aK aW wid hig cag wan1 H.size p2 x7 x8 r38 wN hN ew eh hw1 hh1) (cwV 5 hts g_Grid_walkRow_Grid_keepLine rfl rfl rfl (by decide +kernel) ⟨Nat.le_of_ble_eq_true rfl, Nat.le_of_ble_eq_true rfl⟩) ⟨fun a U g mk q => by obtain ⟨q0, q1, qP, qK, qD⟩ := q; exact ⟨q0, q1, qP, va_K.moved (u := U) (U := U.calling g mk a) (Vm.Alike.refl U.vm) qK, qD⟩, va_recv hK hPc (ci := 2) (q0 := 0) rfl rfl, fun U hU hW => ⟨rfl, by rw [hU], by rw [hU]; exact hPc, va_K.moved hW.alike hK, hDc.weaken (fun _ _ _ _ => trivial)⟩⟩ rfl rfl hl.1 rfl (lv_room (Nat.le_of_ble_eq_true rfl)) d_Grid_walkRow_79 ⟨Nat.le_of_ble_eq_true rfl, Nat.le_of_ble_eq_true rfl⟩) hS (fun q _ h => hFc q h) hFc (fun u t H1 locs ht hvm hw hB hz1 hk1 hS => ?_)
            obtain ⟨wan_79, rfl⟩ : ∃ z, z = u := ⟨_, rfl⟩
            have w79 : wan_79 0 = p2 ∧ wan_79 1 = x7 ∧ wan_79 2 = p2 ∧ wan_79 3 = x8 ∧ ((r38.toInt = 0 ∧ (wan_79 4).toInt = 0) ∨ (¬ r38.toInt = 0 ∧ (wan_79 4).toInt = 1)) := hw
            obtain ⟨hP1, hK1, hD1⟩ := hB
            rw [ht] at hP1
            obtain ⟨hP, hD⟩ := va_join (wr := []) (w1 := [(oG, .inr (2, [.int wid, .int hig, .ref aK, .ref aW])), (aK, .inl (cI, 64, .inl cag)), (aW, .inl (cI, 5, .inl wan_79))]) hP hD [0, 1, 2] [] rfl rfl (by decide) (by decide) hk1 hFc hP1 hD1
            generalize H1 = H at hP hS ⊢
            have hP : va_P (dC, dI) classes [(oG, .inr (2, [.int wid, .int hig, .ref aK, .ref aW])), (aK, .inl (cI, 64, .inl cag)), (aW, .inl (cI, 5, .inl wan_79))] H := hP
            have hD : va_D A [(oG, .inr (2, [.int wid, .int hig, .ref aK, .ref aW])), (aK, .inl (cI, 64, .inl cag)), (aW, .inl (cI, 5, .inl wan_79))] := hD
            obtain ⟨v82, ev82⟩ : ∃ y : Int32, y = (x6 + 1) := ⟨_, rfl⟩
            have fv82 : v82.toInt = ((G.length : Int) + 1) := by rw [ev82]; exact xi_add e6 (show (1 : Int32).toInt = 1 by decide) (by omega) (by omega)
            refine lv_iinc (v := v82) (lv' := [(6, .int v82), (9, .int r38), (0, .ref oG), (1, .int 0), (2, .int p2), (3, .int p3), (4, .int p4), (5, .int hig), (7, .int x7), (8, .int x8)]) hx hb d_Grid_walkRow_82 hl (k := 7) rfl (by rw [ev82]; rfl) (by decide) rfl (fun ls hl => ?_)
            refine lv_iload hx hb d_Grid_walkRow_85 (lv_at hl 9 rfl) ?_
            refine lv_istore (lv' := [(7, .int x8), (6, .int v82), (9, .int r38), (0, .ref oG), (1, .int 0), (2, .int p2), (3, .int p3), (4, .int p4), (5, .int hig), (8, .int x8)]) hx hb d_Grid_walkRow_87 hl (by decide) rfl (fun ls hl => ?_)
            obtain ⟨v89, ev89⟩ : ∃ y : Int32, y = (x8 + 1) := ⟨_, rfl⟩
            have fv89 : v89.toInt = (((tt + 1 : Nat) : Int) + 1) := by rw [ev89]; exact xi_add e8 (show (1 : Int32).toInt = 1 by decide) (by omega) (by omega)
            refine lv_iinc (v := v89) (lv' := [(8, .int v89), (7, .int x8), (6, .int v82), (9, .int r38), (0, .ref oG), (1, .int 0), (2, .int p2), (3, .int p3), (4, .int p4), (5, .int hig)]) hx hb d_Grid_walkRow_89 hl (k := 9) rfl (by rw [ev89]; rfl) (by decide) rfl (fun ls hl => ?_)
            refine lv_goto (tgt := 26) hx hb d_Grid_walkRow_92 (by decide) ?_
            have hrow := gd_row_y (th := (gd_s wN hN cag q)) (len := hN) (t := tt) (Or.inl (by omega))
            have hput : gd_is wan_79 (gd_ls q ((gd_row (gd_s wN hN cag q) hN tt).2, tt + 1, (gd_s wN hN cag q) (gd_row (gd_s wN hN cag q) hN tt).2)) := gd_hput_s w38 w79 e7 eq e8
            exact ih26 (tt + 1) (G ++ [(gd_ls q ((gd_row (gd_s wN hN cag q) hN tt).2, tt + 1, (gd_s wN hN cag q) (gd_row (gd_s wN hN cag q) hN tt).2))]) v82 x8 v89 wan_79 (by omega) (by omega) (by rw [hrow, hG, List.map_append, ← List.append_assoc]; rfl) (by rw [List.length_append, List.length_singleton]; omega) (by rw [hrow]; exact e8) (by omega) (gd_K_put hput (by omega)) _ _ hP hD hS ls (lv_sub hl [4, 5, 6, 7, 8, 9, 2, 1, 0] rfl)
        · refine lv_aload_n hx hb d_Grid_walkRow_50 rfl (lv_at hl 1 rfl) ?_
          refine lv_iload_n hx hb d_Grid_walkRow_51 rfl (lv_at hl 2 rfl) ?_
          refine lv_iload_n hx hb d_Grid_walkRow_52 rfl (lv_at hl 3 rfl) ?_
          refine lv_iload hx hb d_Grid_walkRow_53 (lv_at hl 9 rfl) ?_
          have hPc := hP.sub (ws' := [(oG, .inr (2, [.int wid, .int hig, .ref aK, .ref aW])), (aK, .inl (cI, 64, .inl cag)), (aW, .inl (cI, 5, .inl wan1))]) [0, 1, 2] rfl
          have hDc := hD.sub (ws' := [(oG, .inr (2, [.int wid, .int hig, .ref aK, .ref aW])), (aK, .inl (cI, 64, .inl cag)), (aW, .inl (cI, 5, .inl wan1))]) [0, 1, 2] (by decide) rfl
          have hFc := va_free (wc := [(oG, .inr (2, [.int wid, .int hig, .ref aK, .ref aW])), (aK, .inl (cI, 64, .inl cag)), (aW, .inl (cI, 5, .inl wan1))]) hD hS hA [0, 1, 2] rfl
          refine va_calli (va_runV (As := [.int 0, .int p2, .int x8]) (rest := []) ⟨hx, hb, hml, hown, hts⟩ (k_Grid_isThick_s l dC dI cI cZ oG aK aW wid hig cag wan1 H.size p2 x8 wN hN q (tt + 1) ew eh hw1 hh1 eq e8 (by omega) hq) (cwV 3 hts g_Grid_walkRow_Grid_isThick rfl rfl rfl (by decide +kernel) ⟨Nat.le_of_ble_eq_true rfl, Nat.le_of_ble_eq_true rfl⟩) ⟨fun a U g mk q => by obtain ⟨q0, q1, qP, qK, qD⟩ := q; exact ⟨q0, q1, qP, va_K.moved (u := U) (U := U.calling g mk a) (Vm.Alike.refl U.vm) qK, qD⟩, va_recv hK hPc (ci := 2) (q0 := 0) rfl rfl, fun U hU hW => ⟨rfl, by rw [hU], by rw [hU]; exact hPc, va_K.moved hW.alike hK, hDc.weaken (fun _ _ _ _ => trivial)⟩⟩ rfl rfl hl.1 rfl (lv_room (Nat.le_of_ble_eq_true rfl)) d_Grid_walkRow_55 ⟨Nat.le_of_ble_eq_true rfl, Nat.le_of_ble_eq_true rfl⟩) hS (fun q _ h => hFc q h) hFc (fun r55 u t H1 locs ht hvm hw hB hz1 hk1 hS => ?_)
          have w55 : (r55.toInt = 1 ∧ gd_s wN hN cag q (tt + 1) = true) ∨ (r55.toInt = 0 ∧ gd_s wN hN cag q (tt + 1) = false) := hw
          obtain ⟨hP1, hK1, hD1⟩ := hB
          rw [ht] at hP1
          obtain ⟨hP, hD⟩ := va_join (wr := []) (w1 := [(oG, .inr (2, [.int wid, .int hig, .ref aK, .ref aW])), (aK, .inl (cI, 64, .inl cag)), (aW, .inl (cI, 5, .inl wan1))]) hP hD [0, 1, 2] [] rfl rfl (by decide) (by decide) hk1 hFc hP1 hD1
          generalize H1 = H at hP hS ⊢
          have hP : va_P (dC, dI) classes [(oG, .inr (2, [.int wid, .int hig, .ref aK, .ref aW])), (aK, .inl (cI, 64, .inl cag)), (aW, .inl (cI, 5, .inl wan1))] H := hP
          have hD : va_D A [(oG, .inr (2, [.int wid, .int hig, .ref aK, .ref aW])), (aK, .inl (cI, 64, .inl cag)), (aW, .inl (cI, 5, .inl wan1))] := hD
          refine lv_iload hx hb d_Grid_walkRow_58 (lv_at hl 0 rfl) ?_
          refine xi_icmp_eq (tgt := 89) hx hb (rfl) (rfl) d_Grid_walkRow_60 (by decide) (fun c60 => ?_) (fun c60 => ?_)
          · obtain ⟨v89, ev89⟩ : ∃ y : Int32, y = (x8 + 1) := ⟨_, rfl⟩
            have fv89 : v89.toInt = (((tt + 1 : Nat) : Int) + 1) := by rw [ev89]; exact xi_add e8 (show (1 : Int32).toInt = 1 by decide) (by omega) (by omega)
            refine lv_iinc (v := v89) (lv' := [(8, .int v89), (9, .int r38), (0, .ref oG), (1, .int 0), (2, .int p2), (3, .int p3), (4, .int p4), (5, .int hig), (6, .int x6), (7, .int x7)]) hx hb d_Grid_walkRow_89 hl (k := 9) rfl (by rw [ev89]; rfl) (by decide) rfl (fun ls hl => ?_)
            refine lv_goto (tgt := 26) hx hb d_Grid_walkRow_92 (by decide) ?_
            have hrow : gd_row (gd_s wN hN cag q) hN (tt + 1) = gd_row (gd_s wN hN cag q) hN tt := gd_row_n (by omega) ((gd_bb w38 w55).mp c60)
            exact ih26 (tt + 1) G x6 x7 v89 wan1 (by omega) (by omega) (by rw [hrow]; exact hG) (by omega) (by rw [hrow]; exact e7) (by omega) hKK _ _ hP hD hS ls (lv_sub hl [2, 3, 4, 5, 6, 7, 8, 9, 0] rfl)
          · refine lv_iload hx hb d_Grid_walkRow_63 (lv_at hl 7 rfl) ?_
            refine lv_iload hx hb d_Grid_walkRow_65 (lv_at hl 5 rfl) ?_
            refine xi_icmp_ne (tgt := 82) hx hb e6 (rfl) d_Grid_walkRow_67 (by decide) (fun c67 => ?_) (fun c67 => ?_)
            · obtain ⟨v82, ev82⟩ : ∃ y : Int32, y = (x6 + 1) := ⟨_, rfl⟩
              have fv82 : v82.toInt = ((G.length : Int) + 1) := by rw [ev82]; exact xi_add e6 (show (1 : Int32).toInt = 1 by decide) (by omega) (by omega)
              refine lv_iinc (v := v82) (lv' := [(6, .int v82), (9, .int r38), (0, .ref oG), (1, .int 0), (2, .int p2), (3, .int p3), (4, .int p4), (5, .int hig), (7, .int x7), (8, .int x8)]) hx hb d_Grid_walkRow_82 hl (k := 7) rfl (by rw [ev82]; rfl) (by decide) rfl (fun ls hl => ?_)
              refine lv_iload hx hb d_Grid_walkRow_85 (lv_at hl 9 rfl) ?_
              refine lv_istore (lv' := [(7, .int x8), (6, .int v82), (9, .int r38), (0, .ref oG), (1, .int 0), (2, .int p2), (3, .int p3), (4, .int p4), (5, .int hig), (8, .int x8)]) hx hb d_Grid_walkRow_87 hl (by decide) rfl (fun ls hl => ?_)
              obtain ⟨v89, ev89⟩ : ∃ y : Int32, y = (x8 + 1) := ⟨_, rfl⟩
              have fv89 : v89.toInt = (((tt + 1 : Nat) : Int) + 1) := by rw [ev89]; exact xi_add e8 (show (1 : Int32).toInt = 1 by decide) (by omega) (by omega)
              refine lv_iinc (v := v89) (lv' := [(8, .int v89), (7, .int x8), (6, .int v82), (9, .int r38), (0, .ref oG), (1, .int 0), (2, .int p2), (3, .int p3), (4, .int p4), (5, .int hig)]) hx hb d_Grid_walkRow_89 hl (k := 9) rfl (by rw [ev89]; rfl) (by decide) rfl (fun ls hl => ?_)
              refine lv_goto (tgt := 26) hx hb d_Grid_walkRow_92 (by decide) ?_
              have hrow := gd_row_y (th := (gd_s wN hN cag q)) (len := hN) (t := tt) (Or.inr (fun z => c60 ((gd_bb w38 w55).mpr z)))
              exact ih26 (tt + 1) (G ++ [(gd_ls q ((gd_row (gd_s wN hN cag q) hN tt).2, tt + 1, (gd_s wN hN cag q) (gd_row (gd_s wN hN cag q) hN tt).2))]) v82 x8 v89 wan1 (by omega) (by omega) (by rw [hrow, hG, List.map_append, ← List.append_assoc]; rfl) (by rw [List.length_append, List.length_singleton]; omega) (by rw [hrow]; exact e8) (by omega) (gd_K_skip hKK (by omega)) _ _ hP hD hS ls (lv_sub hl [4, 5, 6, 7, 8, 9, 2, 1, 0] rfl)
            · refine lv_aload_n hx hb d_Grid_walkRow_70 rfl (lv_at hl 1 rfl) ?_
              refine lv_iload_n hx hb d_Grid_walkRow_71 rfl (lv_at hl 2 rfl) ?_
              refine lv_iload_n hx hb d_Grid_walkRow_72 rfl (lv_at hl 3 rfl) ?_
              refine lv_iload hx hb d_Grid_walkRow_73 (lv_at hl 8 rfl) ?_
              refine lv_iload hx hb d_Grid_walkRow_75 (lv_at hl 9 rfl) ?_
              refine lv_iload hx hb d_Grid_walkRow_77 (lv_at hl 0 rfl) ?_
              have hPc := hP.sub (ws' := [(oG, .inr (2, [.int wid, .int hig, .ref aK, .ref aW])), (aK, .inl (cI, 64, .inl cag)), (aW, .inl (cI, 5, .inl wan1))]) [0, 1, 2] rfl
              have hDc := hD.sub (ws' := [(oG, .inr (2, [.int wid, .int hig, .ref aK, .ref aW])), (aK, .inl (cI, 64, .inl cag)), (aW, .inl (cI, 5, .inl wan1))]) [0, 1, 2] (by decide) rfl
              have hFc := va_free (wc := [(oG, .inr (2, [.int wid, .int hig, .ref aK, .ref aW])), (aK, .inl (cI, 64, .inl cag)), (aW, .inl (cI, 5, .inl wan1))]) hD hS hA [0, 1, 2] rfl
              refine va_callv (va_runV (As := [.int 0, .int p2, .int x7, .int x8, .int r38]) (rest := []) ⟨hx, hb, hml, hown, hts⟩ (k_Grid_keepLine_s l dC dI cI cZ oG aK aW wid hig cag wan1 H.size p2 x7 x8 r38 wN hN ew eh hw1 hh1) (cwV 5 hts g_Grid_walkRow_Grid_keepLine rfl rfl rfl (by decide +kernel) ⟨Nat.le_of_ble_eq_true rfl, Nat.le_of_ble_eq_true rfl⟩) ⟨fun a U g mk q => by obtain ⟨q0, q1, qP, qK, qD⟩ := q; exact ⟨q0, q1, qP, va_K.moved (u := U) (U := U.calling g mk a) (Vm.Alike.refl U.vm) qK, qD⟩, va_recv hK hPc (ci := 2) (q0 := 0) rfl rfl, fun U hU hW => ⟨rfl, by rw [hU], by rw [hU]; exact hPc, va_K.moved hW.alike hK, hDc.weaken (fun _ _ _ _ => trivial)⟩⟩ rfl rfl hl.1 rfl (lv_room (Nat.le_of_ble_eq_true rfl)) d_Grid_walkRow_79 ⟨Nat.le_of_ble_eq_true rfl, Nat.le_of_ble_eq_true rfl⟩) hS (fun q _ h => hFc q h) hFc (fun u t H1 locs ht hvm hw hB hz1 hk1 hS => ?_)
              obtain ⟨wan_79, rfl⟩ : ∃ z, z = u := ⟨_, rfl⟩
              have w79 : wan_79 0 = p2 ∧ wan_79 1 = x7 ∧ wan_79 2 = p2 ∧ wan_79 3 = x8 ∧ ((r38.toInt = 0 ∧ (wan_79 4).toInt = 0) ∨ (¬ r38.toInt = 0 ∧ (wan_79 4).toInt = 1)) := hw
              obtain ⟨hP1, hK1, hD1⟩ := hB
              rw [ht] at hP1
              obtain ⟨hP, hD⟩ := va_join (wr := []) (w1 := [(oG, .inr (2, [.int wid, .int hig, .ref aK, .ref aW])), (aK, .inl (cI, 64, .inl cag)), (aW, .inl (cI, 5, .inl wan_79))]) hP hD [0, 1, 2] [] rfl rfl (by decide) (by decide) hk1 hFc hP1 hD1
              generalize H1 = H at hP hS ⊢
              have hP : va_P (dC, dI) classes [(oG, .inr (2, [.int wid, .int hig, .ref aK, .ref aW])), (aK, .inl (cI, 64, .inl cag)), (aW, .inl (cI, 5, .inl wan_79))] H := hP
              have hD : va_D A [(oG, .inr (2, [.int wid, .int hig, .ref aK, .ref aW])), (aK, .inl (cI, 64, .inl cag)), (aW, .inl (cI, 5, .inl wan_79))] := hD
              obtain ⟨v82, ev82⟩ : ∃ y : Int32, y = (x6 + 1) := ⟨_, rfl⟩
              have fv82 : v82.toInt = ((G.length : Int) + 1) := by rw [ev82]; exact xi_add e6 (show (1 : Int32).toInt = 1 by decide) (by omega) (by omega)
              refine lv_iinc (v := v82) (lv' := [(6, .int v82), (9, .int r38), (0, .ref oG), (1, .int 0), (2, .int p2), (3, .int p3), (4, .int p4), (5, .int hig), (7, .int x7), (8, .int x8)]) hx hb d_Grid_walkRow_82 hl (k := 7) rfl (by rw [ev82]; rfl) (by decide) rfl (fun ls hl => ?_)
              refine lv_iload hx hb d_Grid_walkRow_85 (lv_at hl 9 rfl) ?_
              refine lv_istore (lv' := [(7, .int x8), (6, .int v82), (9, .int r38), (0, .ref oG), (1, .int 0), (2, .int p2), (3, .int p3), (4, .int p4), (5, .int hig), (8, .int x8)]) hx hb d_Grid_walkRow_87 hl (by decide) rfl (fun ls hl => ?_)
              obtain ⟨v89, ev89⟩ : ∃ y : Int32, y = (x8 + 1) := ⟨_, rfl⟩
              have fv89 : v89.toInt = (((tt + 1 : Nat) : Int) + 1) := by rw [ev89]; exact xi_add e8 (show (1 : Int32).toInt = 1 by decide) (by omega) (by omega)
              refine lv_iinc (v := v89) (lv' := [(8, .int v89), (7, .int x8), (6, .int v82), (9, .int r38), (0, .ref oG), (1, .int 0), (2, .int p2), (3, .int p3), (4, .int p4), (5, .int hig)]) hx hb d_Grid_walkRow_89 hl (k := 9) rfl (by rw [ev89]; rfl) (by decide) rfl (fun ls hl => ?_)
              refine lv_goto (tgt := 26) hx hb d_Grid_walkRow_92 (by decide) ?_
              have hrow := gd_row_y (th := (gd_s wN hN cag q)) (len := hN) (t := tt) (Or.inr (fun z => c60 ((gd_bb w38 w55).mpr z)))
              have hput : gd_is wan_79 (gd_ls q ((gd_row (gd_s wN hN cag q) hN tt).2, tt + 1, (gd_s wN hN cag q) (gd_row (gd_s wN hN cag q) hN tt).2)) := gd_hput_s w38 w79 e7 eq e8
              exact ih26 (tt + 1) (G ++ [(gd_ls q ((gd_row (gd_s wN hN cag q) hN tt).2, tt + 1, (gd_s wN hN cag q) (gd_row (gd_s wN hN cag q) hN tt).2))]) v82 x8 v89 wan_79 (by omega) (by omega) (by rw [hrow, hG, List.map_append, ← List.append_assoc]; rfl) (by rw [List.length_append, List.length_singleton]; omega) (by rw [hrow]; exact e8) (by omega) (gd_K_put hput (by omega)) _ _ hP hD hS ls (lv_sub hl [4, 5, 6, 7, 8, 9, 2, 1, 0] rfl)
  refine lv_iload_n hx hb d_Grid_walkRow_0 rfl (lv_at hl 1 rfl) ?_
  refine xi_if_eq (tgt := 11) hx hb (show (0 : Int32).toInt = 0 by decide) d_Grid_walkRow_1 (by decide) (fun c1 => ?_) (fun c1 => absurd c1 (by decide))
  refine lv_aload_n hx hb d_Grid_walkRow_11 rfl (lv_at hl 0 rfl) ?_
  refine va_get (D := (dC, dI)) (ci := 2) (v := .int hig) (C := R_Grid) (T := F_Grid) (N := 4) hx hb hts hw_Grid hown hK hP 0 rfl rfl 1 (by decide) (hts (.fieldLink R_Grid 15 "PageForms$Grid" "high" "I") (by decide +kernel)) (fun _ h9 => h9) rfl d_Grid_walkRow_12 ?_
  refine lv_istore (lv' := [(5, .int hig), (0, .ref oG), (1, .int 0), (2, .int p2), (3, .int p3), (4, .int p4)]) hx hb d_Grid_walkRow_15 hl (by decide) rfl (fun ls hl => ?_)
  refine lv_iload_n hx hb d_Grid_walkRow_17 rfl (lv_at hl 4 rfl) ?_
  refine lv_istore (lv' := [(6, .int p3), (5, .int hig), (0, .ref oG), (1, .int 0), (2, .int p2), (3, .int p3), (4, .int p4)]) hx hb d_Grid_walkRow_18 hl (by decide) rfl (fun ls hl => ?_)
  refine lv_iconst (v := 0) hx hb d_Grid_walkRow_20 (by decide) ?_
  refine lv_istore (lv' := [(7, .int 0), (6, .int p3), (5, .int hig), (0, .ref oG), (1, .int 0), (2, .int p2), (3, .int p3), (4, .int p4)]) hx hb d_Grid_walkRow_21 hl (by decide) rfl (fun ls hl => ?_)
  refine lv_iconst (v := 1) hx hb d_Grid_walkRow_23 (by decide) ?_
  refine lv_istore (lv' := [(8, .int 1), (7, .int 0), (6, .int p3), (5, .int hig), (0, .ref oG), (1, .int 0), (2, .int p2), (3, .int p3), (4, .int p4)]) hx hb d_Grid_walkRow_24 hl (by decide) rfl (fun ls hl => ?_)
  exact loop26 (hN + 1) 0 G0 p3 0 1 wan (by omega) (by omega) (by rw [gd_row]; simp) e3 (show (0 : Int32).toInt = ((0 : Nat) : Int) by decide) (by decide) hK0 _ _ hP hD hS ls (lv_sub hl [4, 5, 6, 7, 8, 3, 2, 1, 0] rfl)

set_option maxHeartbeats 4000000 in
set_option maxRecDepth 100000 in
theorem k_Grid_walkLines (l : Launch) (dC : Nat → ClassId) (dI : Nat → Nat → Nat) (cI cZ : ClassId) (oG : Nat) (aK : Nat) (aW : Nat) (wid : Int32) (hig : Int32) (cag : Nat → Int32) (wan : Nat → Int32) (sz : Nat) (p1 : Int32) (wN : Nat) (hN : Nat) (ew : wid.toInt = (wN : Int)) (eh : hig.toInt = (hN : Int)) (hw1 : 1 ≤ wN ∧ wN ≤ 8) (hh1 : 1 ≤ hN ∧ hN ≤ 8) : Met l y_Grid_walkLines w_Grid_walkLines ({ frames := 2, cells := 0, slots := 0, locals := 55 }) (va_Pc [.ref oG, .int p1] (fun U => U.heap.size = sz ∧ va_P (dC, dI) classes [(oG, .inr (2, [.int wid, .int hig, .ref aK, .ref aW])), (aK, .inl (cI, 64, .inl cag)), (aW, .inl (cI, 5, .inl wan))] U.heap ∧ va_K (dC, dI) classes [(cI, .int), (cZ, .boolean)] U ∧ va_D (fun _ => True) [(oG, .inr (2, [.int wid, .int hig, .ref aK, .ref aW])), (aK, .inl (cI, 64, .inl cag)), (aW, .inl (cI, 5, .inl wan))])) (va_Qi (fun (r : Int32) (u : (Nat → Int32)) => r.toInt = ((gd_all wN hN cag).length : Int) ∧ gd_K p1 u (gd_all wN hN cag)) (fun (u : (Nat → Int32)) (t : State) => va_P (dC, dI) classes [(oG, .inr (2, [.int wid, .int hig, .ref aK, .ref aW])), (aK, .inl (cI, 64, .inl cag)), (aW, .inl (cI, 5, .inl u))] t.heap ∧ va_K (dC, dI) classes [(cI, .int), (cZ, .boolean)] t ∧ va_D (va_A [(oG, .inr (2, [.int wid, .int hig, .ref aK, .ref aW])), (aK, .inl (cI, 64, .inl cag)), (aW, .inl (cI, 5, .inl wan))] sz) [(oG, .inr (2, [.int wid, .int hig, .ref aK, .ref aW])), (aK, .inl (cI, 64, .inl cag)), (aW, .inl (cI, 5, .inl u))]) (va_A [(oG, .inr (2, [.int wid, .int hig, .ref aK, .ref aW])), (aK, .inl (cI, 64, .inl cag)), (aW, .inl (cI, 5, .inl wan))] sz)) 0 0 (va_A [(oG, .inr (2, [.int wid, .int hig, .ref aK, .ref aW])), (aK, .inl (cI, 64, .inl cag)), (aW, .inl (cI, 5, .inl wan))] sz) := by
  refine Met.ofW (cc := b_Grid_walkLines) (maxL := 4) (ret := (some .int)) (by decide) rfl ?_
  intro p e s m args below meth c s₁ B hml hv
  obtain ⟨rfl, hsz, hP, hK, hD0⟩ := hv
  have hx := B.exec
  have hb := B.bytes
  have hr := B.returns
  have hts := atoms_spec (ws := w_Grid_walkLines) B.pre
  have hown : s.vm.findClass R_Grid = some m.cls := findClass_of_methodNamed B.named
  have hlocks := B.notSynchronized
  have hw_Grid : ∀ w ∈ w_Grid, w ∈ w_Grid_walkLines := by decide +kernel
  subst hsz
  have hD := hD0.self (sz := s.heap.size)
  generalize hAe : va_A [(oG, .inr (2, [.int wid, .int hig, .ref aK, .ref aW])), (aK, .inl (cI, 64, .inl cag)), (aW, .inl (cI, 5, .inl wan))] s.heap.size = A at hD ⊢
  have hA : ∀ q : Nat, s.heap.size ≤ q → A q := fun q h => by rw [← hAe]; exact Or.inr h
  have hS : va_S A s.heap s.heap [] := va_S.rf
  have hP : va_P (dC, dI) classes [(oG, .inr (2, [.int wid, .int hig, .ref aK, .ref aW])), (aK, .inl (cI, 64, .inl cag)), (aW, .inl (cI, 5, .inl wan))] s.heap := hP
  have hl := lv_entry ([.ref oG, .int p1]) (n := 4) (Nat.le_of_ble_eq_true rfl)
  rw [lg_entry_eq]
  generalize (lg_sl ([.ref oG, .int p1]) ++ List.replicate (4 - (lg_sl ([.ref oG, .int p1])).length) Slot.unset).toArray = ls at hl ⊢
  have hl : lv_has ls 4 [(0, .ref oG), (1, .int p1)] := hl
  have loop29 : ∀ (n29 : Nat) (k : Nat) (x2 : Int32) (x3 : Int32) (wan1 : Nat → Int32), (wN + 1 - k < n29) → (k ≤ wN + 1) → (x3.toInt = (k : Int)) → (x2.toInt = ((gd_cat (gd_rowa wN hN cag) (hN + 1) ++ gd_cat (gd_rows wN hN cag) k).length : Int)) → (gd_K p1 wan1 (gd_cat (gd_rowa wN hN cag) (hN + 1) ++ gd_cat (gd_rows wN hN cag) k)) → ∀ (H : Heap) (locs : List Loc), va_P (dC, dI) classes [(oG, .inr (2, [.int wid, .int hig, .ref aK, .ref aW])), (aK, .inl (cI, 64, .inl cag)), (aW, .inl (cI, 5, .inl wan1))] H → va_D A [(oG, .inr (2, [.int wid, .int hig, .ref aK, .ref aW])), (aK, .inl (cI, 64, .inl cag)), (aW, .inl (cI, 5, .inl wan1))] → va_S A s.heap H locs → ∀ (ls : Array Slot), lv_has ls 4 [(0, .ref oG), (1, .int p1), (2, .int x2), (3, .int x3)] → W p l e (headSpec w_Grid_walkLines ({ frames := 2, cells := 0, slots := 0, locals := 55 })).room s m ([.ref oG, .int p1] : List Value).toArray below meth c H locs 0 0 (MQ below (va_Qi (fun (r : Int32) (u : (Nat → Int32)) => r.toInt = ((gd_all wN hN cag).length : Int) ∧ gd_K p1 u (gd_all wN hN cag)) (fun (u : (Nat → Int32)) (t : State) => va_P (dC, dI) classes [(oG, .inr (2, [.int wid, .int hig, .ref aK, .ref aW])), (aK, .inl (cI, 64, .inl cag)), (aW, .inl (cI, 5, .inl u))] t.heap ∧ va_K (dC, dI) classes [(cI, .int), (cZ, .boolean)] t ∧ va_D (A) [(oG, .inr (2, [.int wid, .int hig, .ref aK, .ref aW])), (aK, .inl (cI, 64, .inl cag)), (aW, .inl (cI, 5, .inl u))]) (A)) ([.ref oG, .int p1] : List Value).toArray s 0 0 A) (F0 m 29 ls []) := by
    intro n29
    induction n29 with
    | zero => intro k x2 x3 wan1 hmz29; omega
    | succ n29 ih29 =>
      intro k x2 x3 wan1 hmz29 hk e3 e2 hKK H locs hP hD hS ls hl
      have hcl := gd_cat_len (f := gd_rowa wN hN cag) (gd_rowa_len hw1.2) (hN + 1)
      have hcl2 := gd_cat_len (f := gd_rows wN hN cag) (gd_rows_len hh1.2) k
      have hcl3 : (gd_cat (gd_rowa wN hN cag) (hN + 1) ++ gd_cat (gd_rows wN hN cag) k).length ≤ 1000 := by rw [List.length_append]; omega
      refine lv_iload_n hx hb d_Grid_walkLines_29 rfl (lv_at hl 3 rfl) ?_
      refine lv_aload_n hx hb d_Grid_walkLines_30 rfl (lv_at hl 0 rfl) ?_
      refine va_get (D := (dC, dI)) (ci := 2) (v := .int wid) (C := R_Grid) (T := F_Grid) (N := 4) hx hb hts hw_Grid hown hK hP 0 rfl rfl 0 (by decide) (hts (.fieldLink R_Grid 9 "PageForms$Grid" "wide" "I") (by decide +kernel)) (fun _ h9 => h9) rfl d_Grid_walkLines_31 ?_
      refine xi_icmp_gt (tgt := 52) hx hb e3 ew d_Grid_walkLines_34 (by decide) (fun c34 => ?_) (fun c34 => ?_)
      · refine lv_iload_n hx hb d_Grid_walkLines_52 rfl (lv_at hl 2 rfl) ?_
        have hkN : k = wN + 1 := by omega
        rw [hkN] at e2 hKK
        exact W.iret (v := x2) hx hb hr (fun t ht hW => ⟨⟨x2, wan1, rfl, (show x2.toInt = ((gd_all wN hN cag).length : Int) ∧ gd_K p1 wan1 (gd_all wN hN cag) from ⟨e2, hKK⟩), by rw [ht]; exact hP, va_K.moved hW.alike hK, hD⟩, hS.F ht⟩) hS.2.2 d_Grid_walkLines_53
      · refine lv_aload_n hx hb d_Grid_walkLines_37 rfl (lv_at hl 0 rfl) ?_
        refine lv_iconst (v := 0) hx hb d_Grid_walkLines_38 (by decide) ?_
        refine lv_iload_n hx hb d_Grid_walkLines_39 rfl (lv_at hl 3 rfl) ?_
        refine lv_iload_n hx hb d_Grid_walkLines_40 rfl (lv_at hl 2 rfl) ?_
        refine lv_iload_n hx hb d_Grid_walkLines_41 rfl (lv_at hl 1 rfl) ?_
        have hPc := hP.sub (ws' := [(oG, .inr (2, [.int wid, .int hig, .ref aK, .ref aW])), (aK, .inl (cI, 64, .inl cag)), (aW, .inl (cI, 5, .inl wan1))]) [0, 1, 2] rfl
        have hDc := hD.sub (ws' := [(oG, .inr (2, [.int wid, .int hig, .ref aK, .ref aW])), (aK, .inl (cI, 64, .inl cag)), (aW, .inl (cI, 5, .inl wan1))]) [0, 1, 2] (by decide) rfl
        have hFc := va_free (wc := [(oG, .inr (2, [.int wid, .int hig, .ref aK, .ref aW])), (aK, .inl (cI, 64, .inl cag)), (aW, .inl (cI, 5, .inl wan1))]) hD hS hA [0, 1, 2] rfl
        refine va_calli (va_runV (As := [.int 0, .int x3, .int x2, .int p1]) (rest := []) ⟨hx, hb, hml, hown, hts⟩ (k_Grid_walkRow_s l dC dI cI cZ oG aK aW wid hig cag wan1 H.size x3 x2 p1 wN hN k (gd_cat (gd_rowa wN hN cag) (hN + 1) ++ gd_cat (gd_rows wN hN cag) k) ew eh hw1 hh1 e3 (by omega) e2 hcl3 hKK) (cwV 4 hts g_Grid_walkLines_Grid_walkRow rfl rfl rfl (by decide +kernel) ⟨Nat.le_of_ble_eq_true rfl, Nat.le_of_ble_eq_true rfl⟩) ⟨fun a U g mk q => by obtain ⟨q0, q1, qP, qK, qD⟩ := q; exact ⟨q0, q1, qP, va_K.moved (u := U) (U := U.calling g mk a) (Vm.Alike.refl U.vm) qK, qD⟩, va_recv hK hPc (ci := 2) (q0 := 0) rfl rfl, fun U hU hW => ⟨rfl, by rw [hU], by rw [hU]; exact hPc, va_K.moved hW.alike hK, hDc.weaken (fun _ _ _ _ => trivial)⟩⟩ rfl rfl hl.1 rfl (lv_room (Nat.le_of_ble_eq_true rfl)) d_Grid_walkLines_42 ⟨Nat.le_of_ble_eq_true rfl, Nat.le_of_ble_eq_true rfl⟩) hS (fun q _ h => hFc q h) hFc (fun r42 u t H1 locs ht hvm hw hB hz1 hk1 hS => ?_)
        obtain ⟨wan_42, rfl⟩ : ∃ z, z = u := ⟨_, rfl⟩
        have w42 : r42.toInt = (((gd_cat (gd_rowa wN hN cag) (hN + 1) ++ gd_cat (gd_rows wN hN cag) k) ++ (gd_row (gd_s wN hN cag k) hN hN).1.map (gd_ls k)).length : Int) ∧ gd_K p1 wan_42 ((gd_cat (gd_rowa wN hN cag) (hN + 1) ++ gd_cat (gd_rows wN hN cag) k) ++ (gd_row (gd_s wN hN cag k) hN hN).1.map (gd_ls k)) := hw
        obtain ⟨hP1, hK1, hD1⟩ := hB
        rw [ht] at hP1
        obtain ⟨hP, hD⟩ := va_join (wr := []) (w1 := [(oG, .inr (2, [.int wid, .int hig, .ref aK, .ref aW])), (aK, .inl (cI, 64, .inl cag)), (aW, .inl (cI, 5, .inl wan_42))]) hP hD [0, 1, 2] [] rfl rfl (by decide) (by decide) hk1 hFc hP1 hD1
        generalize H1 = H at hP hS ⊢
        have hP : va_P (dC, dI) classes [(oG, .inr (2, [.int wid, .int hig, .ref aK, .ref aW])), (aK, .inl (cI, 64, .inl cag)), (aW, .inl (cI, 5, .inl wan_42))] H := hP
        have hD : va_D A [(oG, .inr (2, [.int wid, .int hig, .ref aK, .ref aW])), (aK, .inl (cI, 64, .inl cag)), (aW, .inl (cI, 5, .inl wan_42))] := hD
        refine lv_istore_n (lv' := [(2, .int r42), (0, .ref oG), (1, .int p1), (3, .int x3)]) hx hb d_Grid_walkLines_45 rfl hl (by decide) rfl (fun ls hl => ?_)
        obtain ⟨v46, ev46⟩ : ∃ y : Int32, y = (x3 + 1) := ⟨_, rfl⟩
        have fv46 : v46.toInt = ((k : Int) + 1) := by rw [ev46]; exact xi_add e3 (show (1 : Int32).toInt = 1 by decide) (by omega) (by omega)
        refine lv_iinc (v := v46) (lv' := [(3, .int v46), (2, .int r42), (0, .ref oG), (1, .int p1)]) hx hb d_Grid_walkLines_46 hl (k := 3) rfl (by rw [ev46]; rfl) (by decide) rfl (fun ls hl => ?_)
        refine lv_goto (tgt := 29) hx hb d_Grid_walkLines_49 (by decide) ?_
        exact ih29 (k + 1) r42 v46 wan_42 (by omega) (by omega) (by omega) (by rw [show gd_cat (gd_rows wN hN cag) (k + 1) = gd_cat (gd_rows wN hN cag) k ++ gd_rows wN hN cag k from rfl, ← List.append_assoc]; exact w42.1) (by rw [show gd_cat (gd_rows wN hN cag) (k + 1) = gd_cat (gd_rows wN hN cag) k ++ gd_rows wN hN cag k from rfl, ← List.append_assoc]; exact w42.2) _ _ hP hD hS ls (lv_sub hl [2, 3, 1, 0] rfl)
  have loop4 : ∀ (n4 : Nat) (k : Nat) (x2 : Int32) (x3 : Int32) (wan1 : Nat → Int32), (hN + 1 - k < n4) → (k ≤ hN + 1) → (x3.toInt = (k : Int)) → (x2.toInt = ((gd_cat (gd_rowa wN hN cag) k).length : Int)) → (gd_K p1 wan1 (gd_cat (gd_rowa wN hN cag) k)) → ∀ (H : Heap) (locs : List Loc), va_P (dC, dI) classes [(oG, .inr (2, [.int wid, .int hig, .ref aK, .ref aW])), (aK, .inl (cI, 64, .inl cag)), (aW, .inl (cI, 5, .inl wan1))] H → va_D A [(oG, .inr (2, [.int wid, .int hig, .ref aK, .ref aW])), (aK, .inl (cI, 64, .inl cag)), (aW, .inl (cI, 5, .inl wan1))] → va_S A s.heap H locs → ∀ (ls : Array Slot), lv_has ls 4 [(0, .ref oG), (1, .int p1), (2, .int x2), (3, .int x3)] → W p l e (headSpec w_Grid_walkLines ({ frames := 2, cells := 0, slots := 0, locals := 55 })).room s m ([.ref oG, .int p1] : List Value).toArray below meth c H locs 0 0 (MQ below (va_Qi (fun (r : Int32) (u : (Nat → Int32)) => r.toInt = ((gd_all wN hN cag).length : Int) ∧ gd_K p1 u (gd_all wN hN cag)) (fun (u : (Nat → Int32)) (t : State) => va_P (dC, dI) classes [(oG, .inr (2, [.int wid, .int hig, .ref aK, .ref aW])), (aK, .inl (cI, 64, .inl cag)), (aW, .inl (cI, 5, .inl u))] t.heap ∧ va_K (dC, dI) classes [(cI, .int), (cZ, .boolean)] t ∧ va_D (A) [(oG, .inr (2, [.int wid, .int hig, .ref aK, .ref aW])), (aK, .inl (cI, 64, .inl cag)), (aW, .inl (cI, 5, .inl u))]) (A)) ([.ref oG, .int p1] : List Value).toArray s 0 0 A) (F0 m 4 ls []) := by
    intro n4
    induction n4 with
    | zero => intro k x2 x3 wan1 hmz4; omega
    | succ n4 ih4 =>
      intro k x2 x3 wan1 hmz4 hk e3 e2 hKK H locs hP hD hS ls hl
      have hcl := gd_cat_len (f := gd_rowa wN hN cag) (gd_rowa_len hw1.2) k
      refine lv_iload_n hx hb d_Grid_walkLines_4 rfl (lv_at hl 3 rfl) ?_
      refine lv_aload_n hx hb d_Grid_walkLines_5 rfl (lv_at hl 0 rfl) ?_
      refine va_get (D := (dC, dI)) (ci := 2) (v := .int hig) (C := R_Grid) (T := F_Grid) (N := 4) hx hb hts hw_Grid hown hK hP 0 rfl rfl 1 (by decide) (hts (.fieldLink R_Grid 15 "PageForms$Grid" "high" "I") (by decide +kernel)) (fun _ h9 => h9) rfl d_Grid_walkLines_6 ?_
      refine xi_icmp_gt (tgt := 27) hx hb e3 eh d_Grid_walkLines_9 (by decide) (fun c9 => ?_) (fun c9 => ?_)
      · refine lv_iconst (v := 0) hx hb d_Grid_walkLines_27 (by decide) ?_
        refine lv_istore_n (lv' := [(3, .int 0), (0, .ref oG), (1, .int p1), (2, .int x2)]) hx hb d_Grid_walkLines_28 rfl hl (by decide) rfl (fun ls hl => ?_)
        have hkN : k = hN + 1 := by omega
        rw [hkN] at e2 hKK
        exact loop29 (wN + 2) 0 x2 0 wan1 (by omega) (by omega) (by decide) (by rw [show gd_cat (gd_rows wN hN cag) 0 = [] from rfl, List.append_nil]; exact e2) (by rw [show gd_cat (gd_rows wN hN cag) 0 = [] from rfl, List.append_nil]; exact hKK) _ _ hP hD hS ls (lv_sub hl [1, 2, 3, 0] rfl)
      · refine lv_aload_n hx hb d_Grid_walkLines_12 rfl (lv_at hl 0 rfl) ?_
        refine lv_iconst (v := 1) hx hb d_Grid_walkLines_13 (by decide) ?_
        refine lv_iload_n hx hb d_Grid_walkLines_14 rfl (lv_at hl 3 rfl) ?_
        refine lv_iload_n hx hb d_Grid_walkLines_15 rfl (lv_at hl 2 rfl) ?_
        refine lv_iload_n hx hb d_Grid_walkLines_16 rfl (lv_at hl 1 rfl) ?_
        have hPc := hP.sub (ws' := [(oG, .inr (2, [.int wid, .int hig, .ref aK, .ref aW])), (aK, .inl (cI, 64, .inl cag)), (aW, .inl (cI, 5, .inl wan1))]) [0, 1, 2] rfl
        have hDc := hD.sub (ws' := [(oG, .inr (2, [.int wid, .int hig, .ref aK, .ref aW])), (aK, .inl (cI, 64, .inl cag)), (aW, .inl (cI, 5, .inl wan1))]) [0, 1, 2] (by decide) rfl
        have hFc := va_free (wc := [(oG, .inr (2, [.int wid, .int hig, .ref aK, .ref aW])), (aK, .inl (cI, 64, .inl cag)), (aW, .inl (cI, 5, .inl wan1))]) hD hS hA [0, 1, 2] rfl
        refine va_calli (va_runV (As := [.int 1, .int x3, .int x2, .int p1]) (rest := []) ⟨hx, hb, hml, hown, hts⟩ (k_Grid_walkRow_a l dC dI cI cZ oG aK aW wid hig cag wan1 H.size x3 x2 p1 wN hN k (gd_cat (gd_rowa wN hN cag) k) ew eh hw1 hh1 e3 (by omega) e2 (by omega) hKK) (cwV 4 hts g_Grid_walkLines_Grid_walkRow rfl rfl rfl (by decide +kernel) ⟨Nat.le_of_ble_eq_true rfl, Nat.le_of_ble_eq_true rfl⟩) ⟨fun a U g mk q => by obtain ⟨q0, q1, qP, qK, qD⟩ := q; exact ⟨q0, q1, qP, va_K.moved (u := U) (U := U.calling g mk a) (Vm.Alike.refl U.vm) qK, qD⟩, va_recv hK hPc (ci := 2) (q0 := 0) rfl rfl, fun U hU hW => ⟨rfl, by rw [hU], by rw [hU]; exact hPc, va_K.moved hW.alike hK, hDc.weaken (fun _ _ _ _ => trivial)⟩⟩ rfl rfl hl.1 rfl (lv_room (Nat.le_of_ble_eq_true rfl)) d_Grid_walkLines_17 ⟨Nat.le_of_ble_eq_true rfl, Nat.le_of_ble_eq_true rfl⟩) hS (fun q _ h => hFc q h) hFc (fun r17 u t H1 locs ht hvm hw hB hz1 hk1 hS => ?_)
        obtain ⟨wan_17, rfl⟩ : ∃ z, z = u := ⟨_, rfl⟩
        have w17 : r17.toInt = (((gd_cat (gd_rowa wN hN cag) k) ++ (gd_row (gd_a wN hN cag k) wN wN).1.map (gd_la k)).length : Int) ∧ gd_K p1 wan_17 ((gd_cat (gd_rowa wN hN cag) k) ++ (gd_row (gd_a wN hN cag k) wN wN).1.map (gd_la k)) := hw
        obtain ⟨hP1, hK1, hD1⟩ := hB
        rw [ht] at hP1
        obtain ⟨hP, hD⟩ := va_join (wr := []) (w1 := [(oG, .inr (2, [.int wid, .int hig, .ref aK, .ref aW])), (aK, .inl (cI, 64, .inl cag)), (aW, .inl (cI, 5, .inl wan_17))]) hP hD [0, 1, 2] [] rfl rfl (by decide) (by decide) hk1 hFc hP1 hD1
        generalize H1 = H at hP hS ⊢
        have hP : va_P (dC, dI) classes [(oG, .inr (2, [.int wid, .int hig, .ref aK, .ref aW])), (aK, .inl (cI, 64, .inl cag)), (aW, .inl (cI, 5, .inl wan_17))] H := hP
        have hD : va_D A [(oG, .inr (2, [.int wid, .int hig, .ref aK, .ref aW])), (aK, .inl (cI, 64, .inl cag)), (aW, .inl (cI, 5, .inl wan_17))] := hD
        refine lv_istore_n (lv' := [(2, .int r17), (0, .ref oG), (1, .int p1), (3, .int x3)]) hx hb d_Grid_walkLines_20 rfl hl (by decide) rfl (fun ls hl => ?_)
        obtain ⟨v21, ev21⟩ : ∃ y : Int32, y = (x3 + 1) := ⟨_, rfl⟩
        have fv21 : v21.toInt = ((k : Int) + 1) := by rw [ev21]; exact xi_add e3 (show (1 : Int32).toInt = 1 by decide) (by omega) (by omega)
        refine lv_iinc (v := v21) (lv' := [(3, .int v21), (2, .int r17), (0, .ref oG), (1, .int p1)]) hx hb d_Grid_walkLines_21 hl (k := 3) rfl (by rw [ev21]; rfl) (by decide) rfl (fun ls hl => ?_)
        refine lv_goto (tgt := 4) hx hb d_Grid_walkLines_24 (by decide) ?_
        exact ih4 (k + 1) r17 v21 wan_17 (by omega) (by omega) (by omega) w17.1 w17.2 _ _ hP hD hS ls (lv_sub hl [2, 3, 1, 0] rfl)
  refine lv_iconst (v := 0) hx hb d_Grid_walkLines_0 (by decide) ?_
  refine lv_istore_n (lv' := [(2, .int 0), (0, .ref oG), (1, .int p1)]) hx hb d_Grid_walkLines_1 rfl hl (by decide) rfl (fun ls hl => ?_)
  refine lv_iconst (v := 0) hx hb d_Grid_walkLines_2 (by decide) ?_
  refine lv_istore_n (lv' := [(3, .int 0), (2, .int 0), (0, .ref oG), (1, .int p1)]) hx hb d_Grid_walkLines_3 rfl hl (by decide) rfl (fun ls hl => ?_)
  exact loop4 (hN + 2) 0 0 0 wan (by omega) (by omega) (by decide) (show (0 : Int32).toInt = ((0 : Nat) : Int) by decide) gd_K_0 _ _ hP hD hS ls (lv_sub hl [2, 3, 1, 0] rfl)

set_option maxHeartbeats 4000000 in
set_option maxRecDepth 100000 in
theorem k_Grid_countLines (l : Launch) (dC : Nat → ClassId) (dI : Nat → Nat → Nat) (cI cZ : ClassId) (oG : Nat) (aK : Nat) (aW : Nat) (wid : Int32) (hig : Int32) (cag : Nat → Int32) (wan : Nat → Int32) (sz : Nat) (wN : Nat) (hN : Nat) (ew : wid.toInt = (wN : Int)) (eh : hig.toInt = (hN : Int)) (hw1 : 1 ≤ wN ∧ wN ≤ 8) (hh1 : 1 ≤ hN ∧ hN ≤ 8) : Met l y_Grid_countLines w_Grid_countLines ({ frames := 3, cells := 0, slots := 0, locals := 78 }) (va_Pc [.ref oG] (fun U => U.heap.size = sz ∧ va_P (dC, dI) classes [(oG, .inr (2, [.int wid, .int hig, .ref aK, .ref aW])), (aK, .inl (cI, 64, .inl cag)), (aW, .inl (cI, 5, .inl wan))] U.heap ∧ va_K (dC, dI) classes [(cI, .int), (cZ, .boolean)] U ∧ va_D (fun _ => True) [(oG, .inr (2, [.int wid, .int hig, .ref aK, .ref aW])), (aK, .inl (cI, 64, .inl cag)), (aW, .inl (cI, 5, .inl wan))])) (va_Qi (fun (r : Int32) (u : (Nat → Int32)) => r.toInt = ((gd_all wN hN cag).length : Int)) (fun (u : (Nat → Int32)) (t : State) => va_P (dC, dI) classes [(oG, .inr (2, [.int wid, .int hig, .ref aK, .ref aW])), (aK, .inl (cI, 64, .inl cag)), (aW, .inl (cI, 5, .inl u))] t.heap ∧ va_K (dC, dI) classes [(cI, .int), (cZ, .boolean)] t ∧ va_D (va_A [(oG, .inr (2, [.int wid, .int hig, .ref aK, .ref aW])), (aK, .inl (cI, 64, .inl cag)), (aW, .inl (cI, 5, .inl wan))] sz) [(oG, .inr (2, [.int wid, .int hig, .ref aK, .ref aW])), (aK, .inl (cI, 64, .inl cag)), (aW, .inl (cI, 5, .inl u))]) (va_A [(oG, .inr (2, [.int wid, .int hig, .ref aK, .ref aW])), (aK, .inl (cI, 64, .inl cag)), (aW, .inl (cI, 5, .inl wan))] sz)) 0 0 (va_A [(oG, .inr (2, [.int wid, .int hig, .ref aK, .ref aW])), (aK, .inl (cI, 64, .inl cag)), (aW, .inl (cI, 5, .inl wan))] sz) := by
  refine Met.ofW (cc := b_Grid_countLines) (maxL := 1) (ret := (some .int)) (by decide) rfl ?_
  intro p e s m args below meth c s₁ B hml hv
  obtain ⟨rfl, hsz, hP, hK, hD0⟩ := hv
  have hx := B.exec
  have hb := B.bytes
  have hr := B.returns
  have hts := atoms_spec (ws := w_Grid_countLines) B.pre
  have hown : s.vm.findClass R_Grid = some m.cls := findClass_of_methodNamed B.named
  have hlocks := B.notSynchronized
  have hw_Grid : ∀ w ∈ w_Grid, w ∈ w_Grid_countLines := by decide +kernel
  subst hsz
  have hD := hD0.self (sz := s.heap.size)
  generalize hAe : va_A [(oG, .inr (2, [.int wid, .int hig, .ref aK, .ref aW])), (aK, .inl (cI, 64, .inl cag)), (aW, .inl (cI, 5, .inl wan))] s.heap.size = A at hD ⊢
  have hA : ∀ q : Nat, s.heap.size ≤ q → A q := fun q h => by rw [← hAe]; exact Or.inr h
  have hS : va_S A s.heap s.heap [] := va_S.rf
  have hP : va_P (dC, dI) classes [(oG, .inr (2, [.int wid, .int hig, .ref aK, .ref aW])), (aK, .inl (cI, 64, .inl cag)), (aW, .inl (cI, 5, .inl wan))] s.heap := hP
  have hl := lv_entry ([.ref oG]) (n := 1) (Nat.le_of_ble_eq_true rfl)
  rw [lg_entry_eq]
  generalize (lg_sl ([.ref oG]) ++ List.replicate (1 - (lg_sl ([.ref oG])).length) Slot.unset).toArray = ls at hl ⊢
  have hl : lv_has ls 1 [(0, .ref oG)] := hl
  refine lv_aload_n hx hb d_Grid_countLines_0 rfl (lv_at hl 0 rfl) ?_
  refine lv_iconst (v := (-1)) hx hb d_Grid_countLines_1 (by decide) ?_
  have hPc := hP.sub (ws' := [(oG, .inr (2, [.int wid, .int hig, .ref aK, .ref aW])), (aK, .inl (cI, 64, .inl cag)), (aW, .inl (cI, 5, .inl wan))]) [0, 1, 2] rfl
  have hDc := hD.sub (ws' := [(oG, .inr (2, [.int wid, .int hig, .ref aK, .ref aW])), (aK, .inl (cI, 64, .inl cag)), (aW, .inl (cI, 5, .inl wan))]) [0, 1, 2] (by decide) rfl
  have hFc := va_free (wc := [(oG, .inr (2, [.int wid, .int hig, .ref aK, .ref aW])), (aK, .inl (cI, 64, .inl cag)), (aW, .inl (cI, 5, .inl wan))]) hD hS hA [0, 1, 2] rfl
  refine va_calli (va_runV (As := [.int (-1)]) (rest := []) ⟨hx, hb, hml, hown, hts⟩ (k_Grid_walkLines l dC dI cI cZ oG aK aW wid hig cag wan s.heap.size (-1) wN hN ew eh hw1 hh1) (cwV 1 hts g_Grid_countLines_Grid_walkLines rfl rfl rfl (by decide +kernel) ⟨Nat.le_of_ble_eq_true rfl, Nat.le_of_ble_eq_true rfl⟩) ⟨fun a U g mk q => by obtain ⟨q0, q1, qP, qK, qD⟩ := q; exact ⟨q0, q1, qP, va_K.moved (u := U) (U := U.calling g mk a) (Vm.Alike.refl U.vm) qK, qD⟩, va_recv hK hPc (ci := 2) (q0 := 0) rfl rfl, fun U hU hW => ⟨rfl, by rw [hU], by rw [hU]; exact hPc, va_K.moved hW.alike hK, hDc.weaken (fun _ _ _ _ => trivial)⟩⟩ rfl rfl hl.1 rfl (lv_room (Nat.le_of_ble_eq_true rfl)) d_Grid_countLines_2 ⟨Nat.le_of_ble_eq_true rfl, Nat.le_of_ble_eq_true rfl⟩) hS (fun q _ h => hFc q h) hFc (fun r2 u t H1 locs ht hvm hw hB hz1 hk1 hS => ?_)
  obtain ⟨wan_2, rfl⟩ : ∃ z, z = u := ⟨_, rfl⟩
  have w2 : r2.toInt = ((gd_all wN hN cag).length : Int) ∧ gd_K (-1) wan_2 (gd_all wN hN cag) := hw
  obtain ⟨hP1, hK1, hD1⟩ := hB
  rw [ht] at hP1
  obtain ⟨hP, hD⟩ := va_join (wr := []) (w1 := [(oG, .inr (2, [.int wid, .int hig, .ref aK, .ref aW])), (aK, .inl (cI, 64, .inl cag)), (aW, .inl (cI, 5, .inl wan_2))]) hP hD [0, 1, 2] [] rfl rfl (by decide) (by decide) hk1 hFc hP1 hD1
  generalize H1 = H at hP hS ⊢
  have hP : va_P (dC, dI) classes [(oG, .inr (2, [.int wid, .int hig, .ref aK, .ref aW])), (aK, .inl (cI, 64, .inl cag)), (aW, .inl (cI, 5, .inl wan_2))] H := hP
  have hD : va_D A [(oG, .inr (2, [.int wid, .int hig, .ref aK, .ref aW])), (aK, .inl (cI, 64, .inl cag)), (aW, .inl (cI, 5, .inl wan_2))] := hD
  exact W.iret (v := r2) hx hb hr (fun t ht hW => ⟨⟨r2, wan_2, rfl, (show r2.toInt = ((gd_all wN hN cag).length : Int) from w2.1), by rw [ht]; exact hP, va_K.moved hW.alike hK, hD⟩, hS.F ht⟩) hS.2.2 d_Grid_countLines_5

set_option maxHeartbeats 4000000 in
set_option maxRecDepth 100000 in
theorem k_Grid_partOfLine (l : Launch) (dC : Nat → ClassId) (dI : Nat → Nat → Nat) (cI cZ : ClassId) (oG : Nat) (aK : Nat) (aW : Nat) (wid : Int32) (hig : Int32) (cag : Nat → Int32) (wan : Nat → Int32) (sz : Nat) (p1 : Int32) (p2 : Int32) (wN : Nat) (hN : Nat) (ew : wid.toInt = (wN : Int)) (eh : hig.toInt = (hN : Int)) (hw1 : 1 ≤ wN ∧ wN ≤ 8) (hh1 : 1 ≤ hN ∧ hN ≤ 8) : Met l y_Grid_partOfLine w_Grid_partOfLine ({ frames := 3, cells := 0, slots := 0, locals := 78 }) (va_Pc [.ref oG, .int p1, .int p2] (fun U => U.heap.size = sz ∧ va_P (dC, dI) classes [(oG, .inr (2, [.int wid, .int hig, .ref aK, .ref aW])), (aK, .inl (cI, 64, .inl cag)), (aW, .inl (cI, 5, .inl wan))] U.heap ∧ va_K (dC, dI) classes [(cI, .int), (cZ, .boolean)] U ∧ va_D (fun _ => True) [(oG, .inr (2, [.int wid, .int hig, .ref aK, .ref aW])), (aK, .inl (cI, 64, .inl cag)), (aW, .inl (cI, 5, .inl wan))])) (va_Qi (fun (r : Int32) (u : (Nat → Int32)) => gd_draw wN hN cag p1 p2 r) (fun (u : (Nat → Int32)) (t : State) => va_P (dC, dI) classes [(oG, .inr (2, [.int wid, .int hig, .ref aK, .ref aW])), (aK, .inl (cI, 64, .inl cag)), (aW, .inl (cI, 5, .inl u))] t.heap ∧ va_K (dC, dI) classes [(cI, .int), (cZ, .boolean)] t ∧ va_D (va_A [(oG, .inr (2, [.int wid, .int hig, .ref aK, .ref aW])), (aK, .inl (cI, 64, .inl cag)), (aW, .inl (cI, 5, .inl wan))] sz) [(oG, .inr (2, [.int wid, .int hig, .ref aK, .ref aW])), (aK, .inl (cI, 64, .inl cag)), (aW, .inl (cI, 5, .inl u))]) (va_A [(oG, .inr (2, [.int wid, .int hig, .ref aK, .ref aW])), (aK, .inl (cI, 64, .inl cag)), (aW, .inl (cI, 5, .inl wan))] sz)) 0 0 (va_A [(oG, .inr (2, [.int wid, .int hig, .ref aK, .ref aW])), (aK, .inl (cI, 64, .inl cag)), (aW, .inl (cI, 5, .inl wan))] sz) := by
  refine Met.ofW (cc := b_Grid_partOfLine) (maxL := 3) (ret := (some .int)) (by decide) rfl ?_
  intro p e s m args below meth c s₁ B hml hv
  obtain ⟨rfl, hsz, hP, hK, hD0⟩ := hv
  have hx := B.exec
  have hb := B.bytes
  have hr := B.returns
  have hts := atoms_spec (ws := w_Grid_partOfLine) B.pre
  have hown : s.vm.findClass R_Grid = some m.cls := findClass_of_methodNamed B.named
  have hlocks := B.notSynchronized
  have hw_Grid : ∀ w ∈ w_Grid, w ∈ w_Grid_partOfLine := by decide +kernel
  subst hsz
  have hD := hD0.self (sz := s.heap.size)
  generalize hAe : va_A [(oG, .inr (2, [.int wid, .int hig, .ref aK, .ref aW])), (aK, .inl (cI, 64, .inl cag)), (aW, .inl (cI, 5, .inl wan))] s.heap.size = A at hD ⊢
  have hA : ∀ q : Nat, s.heap.size ≤ q → A q := fun q h => by rw [← hAe]; exact Or.inr h
  have hS : va_S A s.heap s.heap [] := va_S.rf
  have hP : va_P (dC, dI) classes [(oG, .inr (2, [.int wid, .int hig, .ref aK, .ref aW])), (aK, .inl (cI, 64, .inl cag)), (aW, .inl (cI, 5, .inl wan))] s.heap := hP
  have hl := lv_entry ([.ref oG, .int p1, .int p2]) (n := 3) (Nat.le_of_ble_eq_true rfl)
  rw [lg_entry_eq]
  generalize (lg_sl ([.ref oG, .int p1, .int p2]) ++ List.replicate (3 - (lg_sl ([.ref oG, .int p1, .int p2])).length) Slot.unset).toArray = ls at hl ⊢
  have hl : lv_has ls 3 [(0, .ref oG), (1, .int p1), (2, .int p2)] := hl
  refine lv_iload_n hx hb d_Grid_partOfLine_0 rfl (lv_at hl 1 rfl) ?_
  refine xi_if_lt (tgt := 22) hx hb (rfl) d_Grid_partOfLine_1 (by decide) (fun c1 => ?_) (fun c1 => ?_)
  · refine lv_iconst (v := (-1)) hx hb d_Grid_partOfLine_22 (by decide) ?_
    exact W.iret (v := (-1)) hx hb hr (fun t ht hW => ⟨⟨(-1), wan, rfl, (show gd_draw wN hN cag p1 p2 ((-1) : Int32) from (Or.inr ⟨by omega, by decide⟩)), by rw [ht]; exact hP, va_K.moved hW.alike hK, hD⟩, hS.F ht⟩) hS.2.2 d_Grid_partOfLine_23
  · refine lv_iload_n hx hb d_Grid_partOfLine_4 rfl (lv_at hl 2 rfl) ?_
    refine xi_if_lt (tgt := 22) hx hb (rfl) d_Grid_partOfLine_5 (by decide) (fun c5 => ?_) (fun c5 => ?_)
    · refine lv_iconst (v := (-1)) hx hb d_Grid_partOfLine_22 (by decide) ?_
      exact W.iret (v := (-1)) hx hb hr (fun t ht hW => ⟨⟨(-1), wan, rfl, (show gd_draw wN hN cag p1 p2 ((-1) : Int32) from (Or.inr ⟨by omega, by decide⟩)), by rw [ht]; exact hP, va_K.moved hW.alike hK, hD⟩, hS.F ht⟩) hS.2.2 d_Grid_partOfLine_23
    · refine lv_iload_n hx hb d_Grid_partOfLine_8 rfl (lv_at hl 2 rfl) ?_
      refine lv_iconst (v := 5) hx hb d_Grid_partOfLine_9 (by decide) ?_
      refine xi_icmp_ge (tgt := 22) hx hb (rfl) (show (5 : Int32).toInt = 5 by decide) d_Grid_partOfLine_10 (by decide) (fun c10 => ?_) (fun c10 => ?_)
      · refine lv_iconst (v := (-1)) hx hb d_Grid_partOfLine_22 (by decide) ?_
        exact W.iret (v := (-1)) hx hb hr (fun t ht hW => ⟨⟨(-1), wan, rfl, (show gd_draw wN hN cag p1 p2 ((-1) : Int32) from (Or.inr ⟨by omega, by decide⟩)), by rw [ht]; exact hP, va_K.moved hW.alike hK, hD⟩, hS.F ht⟩) hS.2.2 d_Grid_partOfLine_23
      · refine lv_iload_n hx hb d_Grid_partOfLine_13 rfl (lv_at hl 1 rfl) ?_
        refine lv_aload_n hx hb d_Grid_partOfLine_14 rfl (lv_at hl 0 rfl) ?_
        refine lv_iload_n hx hb d_Grid_partOfLine_15 rfl (lv_at hl 1 rfl) ?_
        have hPc := hP.sub (ws' := [(oG, .inr (2, [.int wid, .int hig, .ref aK, .ref aW])), (aK, .inl (cI, 64, .inl cag)), (aW, .inl (cI, 5, .inl wan))]) [0, 1, 2] rfl
        have hDc := hD.sub (ws' := [(oG, .inr (2, [.int wid, .int hig, .ref aK, .ref aW])), (aK, .inl (cI, 64, .inl cag)), (aW, .inl (cI, 5, .inl wan))]) [0, 1, 2] (by decide) rfl
        have hFc := va_free (wc := [(oG, .inr (2, [.int wid, .int hig, .ref aK, .ref aW])), (aK, .inl (cI, 64, .inl cag)), (aW, .inl (cI, 5, .inl wan))]) hD hS hA [0, 1, 2] rfl
        refine va_calli (va_runV (As := [.int p1]) (rest := [.int p1]) ⟨hx, hb, hml, hown, hts⟩ (k_Grid_walkLines l dC dI cI cZ oG aK aW wid hig cag wan s.heap.size p1 wN hN ew eh hw1 hh1) (cwV 1 hts g_Grid_partOfLine_Grid_walkLines rfl rfl rfl (by decide +kernel) ⟨Nat.le_of_ble_eq_true rfl, Nat.le_of_ble_eq_true rfl⟩) ⟨fun a U g mk q => by obtain ⟨q0, q1, qP, qK, qD⟩ := q; exact ⟨q0, q1, qP, va_K.moved (u := U) (U := U.calling g mk a) (Vm.Alike.refl U.vm) qK, qD⟩, va_recv hK hPc (ci := 2) (q0 := 0) rfl rfl, fun U hU hW => ⟨rfl, by rw [hU], by rw [hU]; exact hPc, va_K.moved hW.alike hK, hDc.weaken (fun _ _ _ _ => trivial)⟩⟩ rfl rfl hl.1 rfl (lv_room (Nat.le_of_ble_eq_true rfl)) d_Grid_partOfLine_16 ⟨Nat.le_of_ble_eq_true rfl, Nat.le_of_ble_eq_true rfl⟩) hS (fun q _ h => hFc q h) hFc (fun r16 u t H1 locs ht hvm hw hB hz1 hk1 hS => ?_)
        obtain ⟨wan_16, rfl⟩ : ∃ z, z = u := ⟨_, rfl⟩
        have w16 : r16.toInt = ((gd_all wN hN cag).length : Int) ∧ gd_K p1 wan_16 (gd_all wN hN cag) := hw
        obtain ⟨hP1, hK1, hD1⟩ := hB
        rw [ht] at hP1
        obtain ⟨hP, hD⟩ := va_join (wr := []) (w1 := [(oG, .inr (2, [.int wid, .int hig, .ref aK, .ref aW])), (aK, .inl (cI, 64, .inl cag)), (aW, .inl (cI, 5, .inl wan_16))]) hP hD [0, 1, 2] [] rfl rfl (by decide) (by decide) hk1 hFc hP1 hD1
        generalize H1 = H at hP hS ⊢
        have hP : va_P (dC, dI) classes [(oG, .inr (2, [.int wid, .int hig, .ref aK, .ref aW])), (aK, .inl (cI, 64, .inl cag)), (aW, .inl (cI, 5, .inl wan_16))] H := hP
        have hD : va_D A [(oG, .inr (2, [.int wid, .int hig, .ref aK, .ref aW])), (aK, .inl (cI, 64, .inl cag)), (aW, .inl (cI, 5, .inl wan_16))] := hD
        refine xi_icmp_lt (tgt := 24) hx hb (rfl) (rfl) d_Grid_partOfLine_19 (by decide) (fun c19 => ?_) (fun c19 => ?_)
        · obtain ⟨y, hy⟩ : ∃ y : Nat, p2.toInt = (y : Int) := ⟨p2.toInt.toNat, by omega⟩
          obtain ⟨k, hk⟩ : ∃ k : Nat, p1.toInt = (k : Int) := ⟨p1.toInt.toNat, by omega⟩
          have hkl : k < (gd_all wN hN cag).length := by omega
          have hq := gd_is_part (w16.2 k _ hk (List.getElem?_eq_getElem hkl)) y (by omega)
          refine lv_aload_n hx hb d_Grid_partOfLine_24 rfl (lv_at hl 0 rfl) ?_
          refine va_get (D := (dC, dI)) (ci := 2) (v := .ref aW) (C := R_Grid) (T := F_Grid) (N := 4) hx hb hts hw_Grid hown hK hP 0 rfl rfl 3 (by decide) (hts (.fieldLink R_Grid 22 "PageForms$Grid" "wanted" "[I") (by decide +kernel)) (fun _ h9 => h9) rfl d_Grid_partOfLine_25 ?_
          refine lv_iload_n hx hb d_Grid_partOfLine_28 rfl (lv_at hl 2 rfl) ?_
          refine xa_iald hx hb hK hP 2 0 rfl rfl hy y (by omega) (by omega) d_Grid_partOfLine_29 ?_
          exact W.iret (v := (wan_16 y)) hx hb hr (fun t ht hW => ⟨⟨(wan_16 y), wan_16, rfl, (show gd_draw wN hN cag p1 p2 (wan_16 y) from (Or.inl ⟨by omega, by omega, by omega, _, by rw [hk]; exact List.getElem?_eq_getElem hkl, by rw [hy]; exact hq⟩)), by rw [ht]; exact hP, va_K.moved hW.alike hK, hD⟩, hS.F ht⟩) hS.2.2 d_Grid_partOfLine_30
        · refine lv_iconst (v := (-1)) hx hb d_Grid_partOfLine_22 (by decide) ?_
          exact W.iret (v := (-1)) hx hb hr (fun t ht hW => ⟨⟨(-1), wan_16, rfl, (show gd_draw wN hN cag p1 p2 ((-1) : Int32) from (Or.inr ⟨by omega, by decide⟩)), by rw [ht]; exact hP, va_K.moved hW.alike hK, hD⟩, hS.F ht⟩) hS.2.2 d_Grid_partOfLine_23
