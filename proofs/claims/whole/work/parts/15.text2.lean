set_option maxHeartbeats 4000000 in
set_option maxRecDepth 100000 in
theorem k_Text_findBestLine (l : Launch) (dC : Nat → ClassId) (dI : Nat → Nat → Nat) (cI cZ : ClassId) (oT : Nat) (aL : Nat) (aF : Nat) (aS : Nat) (aN : Nat) (byt : Int32) (wds : Int32) (inw : Int32) (lct : Int32) (sqs : Int32) (len : Nat → Int32) (fwd : Nat → Int32) (lsm : Nat → Int32) (nxl : Nat → Int32) (sz : Nat) (p1 : Int32) (p2 : Int32) (w : Nat) (L : Nat → Nat) (v : Nat) (i : Nat) (C : Nat → Nat) (hw0 : wds.toInt = (w : Int)) (hw100 : w ≤ 100) (hL0 : ∀ j, j < w → (len j).toInt = (L j : Int) ∧ L j ≤ v) (e1 : p1.toInt = (i : Int)) (hi : i < w) (e2 : p2.toInt = (v : Int)) (hv : v ≤ 100) (hC : ∀ j, i < j → j ≤ w → (lsm j).toInt = (C j : Int) ∧ C j ≤ 10000 * (w - j)) : Met l y_Text_findBestLine w_Text_findBestLine ({ frames := 0, cells := 0, slots := 0, locals := 0 }) (va_Pc [.ref oT, .int p1, .int p2] (fun U => U.heap.size = sz ∧ va_P (dC, dI) classes [(oT, .inr (3, [.int byt, .int wds, .int inw, .ref aL, .int lct, .int sqs, .ref aF, .ref aS, .ref aN])), (aL, .inl (cI, 100, .inl len)), (aF, .inl (cI, 100, .inl fwd)), (aS, .inl (cI, 101, .inl lsm)), (aN, .inl (cI, 101, .inl nxl))] U.heap ∧ va_K (dC, dI) classes [(cI, .int), (cZ, .boolean)] U ∧ va_D (fun _ => True) [(oT, .inr (3, [.int byt, .int wds, .int inw, .ref aL, .int lct, .int sqs, .ref aF, .ref aS, .ref aN])), (aL, .inl (cI, 100, .inl len)), (aF, .inl (cI, 100, .inl fwd)), (aS, .inl (cI, 101, .inl lsm)), (aN, .inl (cI, 101, .inl nxl))])) (va_Qv (fun (u : (Nat → Int32) × (Nat → Int32)) => ∃ cb nb : Nat, (u.1 i).toInt = (cb : Int) ∧ (u.2 i).toInt = (nb : Int) ∧ tx_bt L v C i w cb nb ∧ (∀ j, j ≠ i → u.1 j = lsm j) ∧ (∀ j, j ≠ i → u.2 j = nxl j)) (fun (u : (Nat → Int32) × (Nat → Int32)) (t : State) => va_P (dC, dI) classes [(oT, .inr (3, [.int byt, .int wds, .int inw, .ref aL, .int lct, .int sqs, .ref aF, .ref aS, .ref aN])), (aL, .inl (cI, 100, .inl len)), (aF, .inl (cI, 100, .inl fwd)), (aS, .inl (cI, 101, .inl u.1)), (aN, .inl (cI, 101, .inl u.2))] t.heap ∧ va_K (dC, dI) classes [(cI, .int), (cZ, .boolean)] t ∧ va_D (va_A [(oT, .inr (3, [.int byt, .int wds, .int inw, .ref aL, .int lct, .int sqs, .ref aF, .ref aS, .ref aN])), (aL, .inl (cI, 100, .inl len)), (aF, .inl (cI, 100, .inl fwd)), (aS, .inl (cI, 101, .inl lsm)), (aN, .inl (cI, 101, .inl nxl))] sz) [(oT, .inr (3, [.int byt, .int wds, .int inw, .ref aL, .int lct, .int sqs, .ref aF, .ref aS, .ref aN])), (aL, .inl (cI, 100, .inl len)), (aF, .inl (cI, 100, .inl fwd)), (aS, .inl (cI, 101, .inl u.1)), (aN, .inl (cI, 101, .inl u.2))]) (va_A [(oT, .inr (3, [.int byt, .int wds, .int inw, .ref aL, .int lct, .int sqs, .ref aF, .ref aS, .ref aN])), (aL, .inl (cI, 100, .inl len)), (aF, .inl (cI, 100, .inl fwd)), (aS, .inl (cI, 101, .inl lsm)), (aN, .inl (cI, 101, .inl nxl))] sz)) 0 0 (va_A [(oT, .inr (3, [.int byt, .int wds, .int inw, .ref aL, .int lct, .int sqs, .ref aF, .ref aS, .ref aN])), (aL, .inl (cI, 100, .inl len)), (aF, .inl (cI, 100, .inl fwd)), (aS, .inl (cI, 101, .inl lsm)), (aN, .inl (cI, 101, .inl nxl))] sz) := by
  refine Met.ofW (cc := b_Text_findBestLine) (maxL := 6) (ret := none) (by decide) rfl ?_
  intro p e s m args below meth c s₁ B hml hv
  obtain ⟨rfl, hsz, hP, hK, hD0⟩ := hv
  have hx := B.exec
  have hb := B.bytes
  have hr := B.returns
  have hts := atoms_spec (ws := w_Text_findBestLine) B.pre
  have hown : s.vm.findClass R_Text = some m.cls := findClass_of_methodNamed B.named
  have hlocks := B.notSynchronized
  have hw_Text : ∀ w ∈ w_Text, w ∈ w_Text_findBestLine := by decide +kernel
  subst hsz
  have hD := hD0.self (sz := s.heap.size)
  generalize hAe : va_A [(oT, .inr (3, [.int byt, .int wds, .int inw, .ref aL, .int lct, .int sqs, .ref aF, .ref aS, .ref aN])), (aL, .inl (cI, 100, .inl len)), (aF, .inl (cI, 100, .inl fwd)), (aS, .inl (cI, 101, .inl lsm)), (aN, .inl (cI, 101, .inl nxl))] s.heap.size = A at hD ⊢
  have hA : ∀ q : Nat, s.heap.size ≤ q → A q := fun q h => by rw [← hAe]; exact Or.inr h
  have hS : va_S A s.heap s.heap [] := va_S.rf
  have hP : va_P (dC, dI) classes [(oT, .inr (3, [.int byt, .int wds, .int inw, .ref aL, .int lct, .int sqs, .ref aF, .ref aS, .ref aN])), (aL, .inl (cI, 100, .inl len)), (aF, .inl (cI, 100, .inl fwd)), (aS, .inl (cI, 101, .inl lsm)), (aN, .inl (cI, 101, .inl nxl))] s.heap := hP
  have hl := lv_entry ([.ref oT, .int p1, .int p2]) (n := 6) (Nat.le_of_ble_eq_true rfl)
  rw [lg_entry_eq]
  generalize (lg_sl ([.ref oT, .int p1, .int p2]) ++ List.replicate (6 - (lg_sl ([.ref oT, .int p1, .int p2])).length) Slot.unset).toArray = ls at hl ⊢
  have hl : lv_has ls 6 [(0, .ref oT), (1, .int p1), (2, .int p2)] := hl
  have hLi := hL0 i hi
  have hC1 := hC (i + 1) (by omega) (by omega)
  have hr1 := tx_r1 hLi.2
  have hsq1 := tx_sq (L := L) (v := v) (show i < i + 1 by omega) hv
  have loop41 : ∀ (n41 : Nat) (m_ : Nat) (cb : Nat) (nb : Nat) (x3 : Int32) (x4 : Int32) (lsm1 : Nat → Int32) (nxl1 : Nat → Int32), (w - m_ < n41) → (i < m_ ∧ m_ ≤ w) → (x4.toInt = (m_ : Int)) → (x3.toInt = ((tx_r L v i m_ : Nat) : Int)) → (tx_fit L v i m_) → ((lsm1 i).toInt = (cb : Int)) → ((nxl1 i).toInt = (nb : Int)) → (tx_bt L v C i m_ cb nb) → (∀ j, j ≠ i → lsm1 j = lsm j) → (∀ j, j ≠ i → nxl1 j = nxl j) → ∀ (H : Heap) (locs : List Loc), va_P (dC, dI) classes [(oT, .inr (3, [.int byt, .int wds, .int inw, .ref aL, .int lct, .int sqs, .ref aF, .ref aS, .ref aN])), (aL, .inl (cI, 100, .inl len)), (aF, .inl (cI, 100, .inl fwd)), (aS, .inl (cI, 101, .inl lsm1)), (aN, .inl (cI, 101, .inl nxl1))] H → va_D A [(oT, .inr (3, [.int byt, .int wds, .int inw, .ref aL, .int lct, .int sqs, .ref aF, .ref aS, .ref aN])), (aL, .inl (cI, 100, .inl len)), (aF, .inl (cI, 100, .inl fwd)), (aS, .inl (cI, 101, .inl lsm1)), (aN, .inl (cI, 101, .inl nxl1))] → va_S A s.heap H locs → ∀ (ls : Array Slot), lv_has ls 6 [(0, .ref oT), (1, .int p1), (2, .int p2), (3, .int x3), (4, .int x4)] → W p l e (headSpec w_Text_findBestLine ({ frames := 0, cells := 0, slots := 0, locals := 0 })).room s m ([.ref oT, .int p1, .int p2] : List Value).toArray below meth c H locs 0 0 (MQ below (va_Qv (fun (u : (Nat → Int32) × (Nat → Int32)) => ∃ cb nb : Nat, (u.1 i).toInt = (cb : Int) ∧ (u.2 i).toInt = (nb : Int) ∧ tx_bt L v C i w cb nb ∧ (∀ j, j ≠ i → u.1 j = lsm j) ∧ (∀ j, j ≠ i → u.2 j = nxl j)) (fun (u : (Nat → Int32) × (Nat → Int32)) (t : State) => va_P (dC, dI) classes [(oT, .inr (3, [.int byt, .int wds, .int inw, .ref aL, .int lct, .int sqs, .ref aF, .ref aS, .ref aN])), (aL, .inl (cI, 100, .inl len)), (aF, .inl (cI, 100, .inl fwd)), (aS, .inl (cI, 101, .inl u.1)), (aN, .inl (cI, 101, .inl u.2))] t.heap ∧ va_K (dC, dI) classes [(cI, .int), (cZ, .boolean)] t ∧ va_D (A) [(oT, .inr (3, [.int byt, .int wds, .int inw, .ref aL, .int lct, .int sqs, .ref aF, .ref aS, .ref aN])), (aL, .inl (cI, 100, .inl len)), (aF, .inl (cI, 100, .inl fwd)), (aS, .inl (cI, 101, .inl u.1)), (aN, .inl (cI, 101, .inl u.2))]) (A)) ([.ref oT, .int p1, .int p2] : List Value).toArray s 0 0 A) (F0 m 41 ls []) := by
    intro n41
    induction n41 with
    | zero => intro m_ cb nb x3 x4 lsm1 nxl1 hmz41; omega
    | succ n41 ih41 =>
      intro m_ cb nb x3 x4 lsm1 nxl1 hmz41 hm1 e4 e3 hf hb1 hb2 hbest ho1 ho2 H locs hP hD hS ls hl
      have hrl := tx_r_le (L := L) (v := v) hm1.1
      refine lv_iload hx hb d_Text_findBestLine_41 (lv_at hl 4 rfl) ?_
      refine lv_aload_n hx hb d_Text_findBestLine_43 rfl (lv_at hl 0 rfl) ?_
      refine va_get (D := (dC, dI)) (ci := 3) (v := .int wds) (C := R_Text) (T := F_Text) (N := 9) hx hb hts hw_Text hown hK hP 0 rfl rfl 1 (by decide) (hts (.fieldLink R_Text 15 "PageForms$Text" "words" "I") (by decide +kernel)) (fun _ h9 => h9) rfl d_Text_findBestLine_44 ?_
      refine xi_icmp_ge (tgt := 117) hx hb e4 hw0 d_Text_findBestLine_47 (by decide) (fun c47 => ?_) (fun c47 => ?_)
      · have hmw : m_ = w := by omega
        rw [hmw] at hbest
        exact W.vret hx hb hr (fun t ht hW => ⟨⟨(lsm1, nxl1), rfl, (show ∃ cb nb : Nat, (lsm1 i).toInt = (cb : Int) ∧ (nxl1 i).toInt = (nb : Int) ∧ tx_bt L v C i w cb nb ∧ (∀ j, j ≠ i → lsm1 j = lsm j) ∧ (∀ j, j ≠ i → nxl1 j = nxl j) from ⟨cb, nb, hb1, hb2, hbest, ho1, ho2⟩), by rw [ht]; exact hP, va_K.moved hW.alike hK, hD⟩, hS.F ht⟩) hS.2.2 d_Text_findBestLine_117
      · have hLm := hL0 m_ (by omega)
        refine lv_iload_n hx hb d_Text_findBestLine_50 rfl (lv_at hl 3 rfl) ?_
        refine lv_iconst (v := 1) hx hb d_Text_findBestLine_51 (by decide) ?_
        refine lv_aload_n hx hb d_Text_findBestLine_52 rfl (lv_at hl 0 rfl) ?_
        refine va_get (D := (dC, dI)) (ci := 3) (v := .ref aL) (C := R_Text) (T := F_Text) (N := 9) hx hb hts hw_Text hown hK hP 0 rfl rfl 3 (by decide) (hts (.fieldLink R_Text 22 "PageForms$Text" "lengths" "[I") (by decide +kernel)) (fun _ h9 => h9) rfl d_Text_findBestLine_53 ?_
        refine lv_iload hx hb d_Text_findBestLine_56 (lv_at hl 4 rfl) ?_
        refine xa_iald hx hb hK hP 1 0 rfl rfl e4 m_ (by omega) (by omega) d_Text_findBestLine_58 ?_
        have b58 : (len m_).toInt = (L m_ : Int) := hLm.1
        refine lv_iadd hx hb d_Text_findBestLine_59 ?_
        have a59 : (1 + (len m_)).toInt = (1 + (L m_ : Int)) := xi_add (show (1 : Int32).toInt = 1 by decide) b58 (by omega) (by omega)
        refine lv_isub hx hb d_Text_findBestLine_60 ?_
        have a60 : (x3 - (1 + (len m_))).toInt = (((tx_r L v i m_ : Nat) : Int) - (1 + (L m_ : Int))) := xi_sub e3 a59 (by omega) (by omega)
        refine lv_topi (fun v61 ev61 => ?_)
        have fv61 : v61.toInt = (((tx_r L v i m_ : Nat) : Int) - (1 + (L m_ : Int))) := by rw [ev61]; exact a60
        refine lv_istore_n (lv' := [(3, .int v61), (0, .ref oT), (1, .int p1), (2, .int p2), (4, .int x4)]) hx hb d_Text_findBestLine_61 rfl hl (by decide) rfl (fun ls hl => ?_)
        refine lv_iload_n hx hb d_Text_findBestLine_62 rfl (lv_at hl 0 rfl) ?_
        refine xi_if_ge (tgt := 67) hx hb fv61 d_Text_findBestLine_63 (by decide) (fun c63 => ?_) (fun c63 => ?_)
        · have hfn := tx_rS hf (show 0 ≤ ((tx_r L v i m_ : Nat) : Int) - (1 + (L m_ : Int)) by omega)
          have e3n : v61.toInt = ((tx_r L v i (m_ + 1) : Nat) : Int) := by rw [fv61]; exact hfn.2.symm
          have hsq2 := tx_sq (L := L) (v := v) (show i < m_ + 1 by omega) hv
          have hCm := hC (m_ + 1) (by omega) (by omega)
          refine lv_iload_n hx hb d_Text_findBestLine_67 rfl (lv_at hl 0 rfl) ?_
          refine lv_iload_n hx hb d_Text_findBestLine_68 rfl (lv_at hl 0 rfl) ?_
          refine lv_imul hx hb d_Text_findBestLine_69 ?_
          have a69 : (v61 * v61).toInt = (((tx_r L v i (m_ + 1)) * (tx_r L v i (m_ + 1)) : Nat) : Int) := xi_mulN e3n e3n (by omega)
          refine lv_aload_n hx hb d_Text_findBestLine_70 rfl (lv_at hl 1 rfl) ?_
          refine va_get (D := (dC, dI)) (ci := 3) (v := .ref aS) (C := R_Text) (T := F_Text) (N := 9) hx hb hts hw_Text hown hK hP 0 rfl rfl 7 (by decide) (hts (.fieldLink R_Text 35 "PageForms$Text" "leastSum" "[I") (by decide +kernel)) (fun _ h9 => h9) rfl d_Text_findBestLine_71 ?_
          refine lv_iload hx hb d_Text_findBestLine_74 (lv_at hl 4 rfl) ?_
          refine lv_iconst (v := 1) hx hb d_Text_findBestLine_76 (by decide) ?_
          refine lv_iadd hx hb d_Text_findBestLine_77 ?_
          have a77 : (x4 + 1).toInt = ((m_ : Int) + 1) := xi_add e4 (show (1 : Int32).toInt = 1 by decide) (by omega) (by omega)
          refine xa_iald hx hb hK hP 3 0 rfl rfl a77 (m_ + 1) (by omega) (by omega) d_Text_findBestLine_78 ?_
          have b78 : (lsm1 (m_ + 1)).toInt = (C (m_ + 1) : Int) := (by rw [ho1 _ (by omega)]; exact hCm.1)
          refine lv_iadd hx hb d_Text_findBestLine_79 ?_
          have a79 : ((v61 * v61) + (lsm1 (m_ + 1))).toInt = ((((tx_r L v i (m_ + 1)) * (tx_r L v i (m_ + 1)) : Nat) : Int) + (C (m_ + 1) : Int)) := xi_add a69 b78 (by omega) (by omega)
          refine lv_topi (fun v80 ev80 => ?_)
          have fv80 : v80.toInt = ((((tx_r L v i (m_ + 1)) * (tx_r L v i (m_ + 1)) : Nat) : Int) + (C (m_ + 1) : Int)) := by rw [ev80]; exact a79
          refine lv_istore (lv' := [(5, .int v80), (3, .int v61), (0, .ref oT), (1, .int p1), (2, .int p2), (4, .int x4)]) hx hb d_Text_findBestLine_80 hl (by decide) rfl (fun ls hl => ?_)
          refine lv_iload hx hb d_Text_findBestLine_82 (lv_at hl 0 rfl) ?_
          refine lv_aload_n hx hb d_Text_findBestLine_84 rfl (lv_at hl 2 rfl) ?_
          refine va_get (D := (dC, dI)) (ci := 3) (v := .ref aS) (C := R_Text) (T := F_Text) (N := 9) hx hb hts hw_Text hown hK hP 0 rfl rfl 7 (by decide) (hts (.fieldLink R_Text 35 "PageForms$Text" "leastSum" "[I") (by decide +kernel)) (fun _ h9 => h9) rfl d_Text_findBestLine_85 ?_
          refine lv_iload_n hx hb d_Text_findBestLine_88 rfl (lv_at hl 3 rfl) ?_
          refine xa_iald hx hb hK hP 3 0 rfl rfl e1 i (by omega) (by omega) d_Text_findBestLine_89 ?_
          have b89 : (lsm1 i).toInt = (cb : Int) := hb1
          refine xi_icmp_gt (tgt := 111) hx hb fv80 b89 d_Text_findBestLine_90 (by decide) (fun c90 => ?_) (fun c90 => ?_)
          · obtain ⟨v111, ev111⟩ : ∃ y : Int32, y = (x4 + 1) := ⟨_, rfl⟩
            have fv111 : v111.toInt = ((m_ : Int) + 1) := by rw [ev111]; exact xi_add e4 (show (1 : Int32).toInt = 1 by decide) (by omega) (by omega)
            refine lv_iinc (v := v111) (lv' := [(4, .int v111), (5, .int v80), (3, .int v61), (0, .ref oT), (1, .int p1), (2, .int p2)]) hx hb d_Text_findBestLine_111 hl (k := 5) rfl (by rw [ev111]; rfl) (by decide) rfl (fun ls hl => ?_)
            refine lv_goto (tgt := 41) hx hb d_Text_findBestLine_114 (by decide) ?_
            exact ih41 (m_ + 1) cb nb v61 v111 lsm1 nxl1 (by omega) (by omega) (by omega) e3n hfn.1 hb1 hb2 (tx_bt_keep hbest (by omega)) ho1 ho2 _ _ hP hD hS ls (lv_sub hl [3, 4, 5, 2, 0] rfl)
          · refine lv_aload_n hx hb d_Text_findBestLine_93 rfl (lv_at hl 2 rfl) ?_
            refine va_get (D := (dC, dI)) (ci := 3) (v := .ref aS) (C := R_Text) (T := F_Text) (N := 9) hx hb hts hw_Text hown hK hP 0 rfl rfl 7 (by decide) (hts (.fieldLink R_Text 35 "PageForms$Text" "leastSum" "[I") (by decide +kernel)) (fun _ h9 => h9) rfl d_Text_findBestLine_94 ?_
            refine lv_iload_n hx hb d_Text_findBestLine_97 rfl (lv_at hl 3 rfl) ?_
            refine lv_iload hx hb d_Text_findBestLine_98 (lv_at hl 0 rfl) ?_
            refine xa_iast hx hb hK hP hD hS 3 0 rfl rfl e1 i (by omega) (by omega) d_Text_findBestLine_100 (fun H locs hP hD hS => ?_)
            have hP : va_P (dC, dI) classes [(oT, .inr (3, [.int byt, .int wds, .int inw, .ref aL, .int lct, .int sqs, .ref aF, .ref aS, .ref aN])), (aL, .inl (cI, 100, .inl len)), (aF, .inl (cI, 100, .inl fwd)), (aS, .inl (cI, 101, .inl (upd lsm1 i v80))), (aN, .inl (cI, 101, .inl nxl1))] H := hP
            have hD : va_D A [(oT, .inr (3, [.int byt, .int wds, .int inw, .ref aL, .int lct, .int sqs, .ref aF, .ref aS, .ref aN])), (aL, .inl (cI, 100, .inl len)), (aF, .inl (cI, 100, .inl fwd)), (aS, .inl (cI, 101, .inl (upd lsm1 i v80))), (aN, .inl (cI, 101, .inl nxl1))] := hD
            refine lv_aload_n hx hb d_Text_findBestLine_101 rfl (lv_at hl 2 rfl) ?_
            refine va_get (D := (dC, dI)) (ci := 3) (v := .ref aN) (C := R_Text) (T := F_Text) (N := 9) hx hb hts hw_Text hown hK hP 0 rfl rfl 8 (by decide) (hts (.fieldLink R_Text 38 "PageForms$Text" "nextLine" "[I") (by decide +kernel)) (fun _ h9 => h9) rfl d_Text_findBestLine_102 ?_
            refine lv_iload_n hx hb d_Text_findBestLine_105 rfl (lv_at hl 3 rfl) ?_
            refine lv_iload hx hb d_Text_findBestLine_106 (lv_at hl 5 rfl) ?_
            refine lv_iconst (v := 1) hx hb d_Text_findBestLine_108 (by decide) ?_
            refine lv_iadd hx hb d_Text_findBestLine_109 ?_
            refine lv_topi (fun v110 ev110 => ?_)
            have fv110 : v110.toInt = ((m_ : Int) + 1) := by rw [ev110]; exact a77
            refine xa_iast hx hb hK hP hD hS 4 0 rfl rfl e1 i (by omega) (by omega) d_Text_findBestLine_110 (fun H locs hP hD hS => ?_)
            have hP : va_P (dC, dI) classes [(oT, .inr (3, [.int byt, .int wds, .int inw, .ref aL, .int lct, .int sqs, .ref aF, .ref aS, .ref aN])), (aL, .inl (cI, 100, .inl len)), (aF, .inl (cI, 100, .inl fwd)), (aS, .inl (cI, 101, .inl (upd lsm1 i v80))), (aN, .inl (cI, 101, .inl (upd nxl1 i v110)))] H := hP
            have hD : va_D A [(oT, .inr (3, [.int byt, .int wds, .int inw, .ref aL, .int lct, .int sqs, .ref aF, .ref aS, .ref aN])), (aL, .inl (cI, 100, .inl len)), (aF, .inl (cI, 100, .inl fwd)), (aS, .inl (cI, 101, .inl (upd lsm1 i v80))), (aN, .inl (cI, 101, .inl (upd nxl1 i v110)))] := hD
            obtain ⟨v111, ev111⟩ : ∃ y : Int32, y = (x4 + 1) := ⟨_, rfl⟩
            have fv111 : v111.toInt = ((m_ : Int) + 1) := by rw [ev111]; exact xi_add e4 (show (1 : Int32).toInt = 1 by decide) (by omega) (by omega)
            refine lv_iinc (v := v111) (lv' := [(4, .int v111), (5, .int v80), (3, .int v61), (0, .ref oT), (1, .int p1), (2, .int p2)]) hx hb d_Text_findBestLine_111 hl (k := 5) rfl (by rw [ev111]; rfl) (by decide) rfl (fun ls hl => ?_)
            refine lv_goto (tgt := 41) hx hb d_Text_findBestLine_114 (by decide) ?_
            exact ih41 (m_ + 1) (tx_r L v i (m_ + 1) * tx_r L v i (m_ + 1) + C (m_ + 1)) (m_ + 1) v61 v111 (upd lsm1 i v80) (upd nxl1 i v110) (by omega) (by omega) (by omega) e3n hfn.1 (by rw [xi_upd_s]; omega) (by rw [xi_upd_s]; omega) (tx_bt_take hbest hfn.1 (by omega)) (fun j hj => by rw [xi_upd_n hj]; exact ho1 j hj) (fun j hj => by rw [xi_upd_n hj]; exact ho2 j hj) _ _ hP hD hS ls (lv_sub hl [3, 4, 5, 2, 0] rfl)
        · exact W.vret hx hb hr (fun t ht hW => ⟨⟨(lsm1, nxl1), rfl, (show ∃ cb nb : Nat, (lsm1 i).toInt = (cb : Int) ∧ (nxl1 i).toInt = (nb : Int) ∧ tx_bt L v C i w cb nb ∧ (∀ j, j ≠ i → lsm1 j = lsm j) ∧ (∀ j, j ≠ i → nxl1 j = nxl j) from ⟨cb, nb, hb1, hb2, tx_bt_stop hbest hm1.2 (fun j hj => tx_rN hf (by omega) hj), ho1, ho2⟩), by rw [ht]; exact hP, va_K.moved hW.alike hK, hD⟩, hS.F ht⟩) hS.2.2 d_Text_findBestLine_66
  refine lv_iload_n hx hb d_Text_findBestLine_0 rfl (lv_at hl 2 rfl) ?_
  refine lv_aload_n hx hb d_Text_findBestLine_1 rfl (lv_at hl 0 rfl) ?_
  refine va_get (D := (dC, dI)) (ci := 3) (v := .ref aL) (C := R_Text) (T := F_Text) (N := 9) hx hb hts hw_Text hown hK hP 0 rfl rfl 3 (by decide) (hts (.fieldLink R_Text 22 "PageForms$Text" "lengths" "[I") (by decide +kernel)) (fun _ h9 => h9) rfl d_Text_findBestLine_2 ?_
  refine lv_iload_n hx hb d_Text_findBestLine_5 rfl (lv_at hl 1 rfl) ?_
  refine xa_iald hx hb hK hP 1 0 rfl rfl e1 i (by omega) (by omega) d_Text_findBestLine_6 ?_
  have b6 : (len i).toInt = (L i : Int) := hLi.1
  refine lv_isub hx hb d_Text_findBestLine_7 ?_
  have a7 : (p2 - (len i)).toInt = ((v : Int) - (L i : Int)) := xi_sub e2 b6 (by omega) (by omega)
  have b7 : (p2 - (len i)).toInt = ((tx_r L v i (i + 1) : Nat) : Int) := (by rw [a7]; exact hr1.2.symm)
  refine lv_topi (fun v8 ev8 => ?_)
  have fv8 : v8.toInt = ((tx_r L v i (i + 1) : Nat) : Int) := by rw [ev8]; exact b7
  refine lv_istore_n (lv' := [(3, .int v8), (0, .ref oT), (1, .int p1), (2, .int p2)]) hx hb d_Text_findBestLine_8 rfl hl (by decide) rfl (fun ls hl => ?_)
  refine lv_aload_n hx hb d_Text_findBestLine_9 rfl (lv_at hl 1 rfl) ?_
  refine va_get (D := (dC, dI)) (ci := 3) (v := .ref aS) (C := R_Text) (T := F_Text) (N := 9) hx hb hts hw_Text hown hK hP 0 rfl rfl 7 (by decide) (hts (.fieldLink R_Text 35 "PageForms$Text" "leastSum" "[I") (by decide +kernel)) (fun _ h9 => h9) rfl d_Text_findBestLine_10 ?_
  refine lv_iload_n hx hb d_Text_findBestLine_13 rfl (lv_at hl 2 rfl) ?_
  refine lv_iload_n hx hb d_Text_findBestLine_14 rfl (lv_at hl 0 rfl) ?_
  refine lv_iload_n hx hb d_Text_findBestLine_15 rfl (lv_at hl 0 rfl) ?_
  refine lv_imul hx hb d_Text_findBestLine_16 ?_
  have a16 : (v8 * v8).toInt = (((tx_r L v i (i + 1)) * (tx_r L v i (i + 1)) : Nat) : Int) := xi_mulN fv8 fv8 (by omega)
  refine lv_aload_n hx hb d_Text_findBestLine_17 rfl (lv_at hl 1 rfl) ?_
  refine va_get (D := (dC, dI)) (ci := 3) (v := .ref aS) (C := R_Text) (T := F_Text) (N := 9) hx hb hts hw_Text hown hK hP 0 rfl rfl 7 (by decide) (hts (.fieldLink R_Text 35 "PageForms$Text" "leastSum" "[I") (by decide +kernel)) (fun _ h9 => h9) rfl d_Text_findBestLine_18 ?_
  refine lv_iload_n hx hb d_Text_findBestLine_21 rfl (lv_at hl 2 rfl) ?_
  refine lv_iconst (v := 1) hx hb d_Text_findBestLine_22 (by decide) ?_
  refine lv_iadd hx hb d_Text_findBestLine_23 ?_
  have a23 : (p1 + 1).toInt = ((i : Int) + 1) := xi_add e1 (show (1 : Int32).toInt = 1 by decide) (by omega) (by omega)
  refine xa_iald hx hb hK hP 3 0 rfl rfl a23 (i + 1) (by omega) (by omega) d_Text_findBestLine_24 ?_
  have b24 : (lsm (i + 1)).toInt = (C (i + 1) : Int) := hC1.1
  refine lv_iadd hx hb d_Text_findBestLine_25 ?_
  have a25 : ((v8 * v8) + (lsm (i + 1))).toInt = ((((tx_r L v i (i + 1)) * (tx_r L v i (i + 1)) : Nat) : Int) + (C (i + 1) : Int)) := xi_add a16 b24 (by omega) (by omega)
  refine lv_topi (fun v26 ev26 => ?_)
  have fv26 : v26.toInt = ((((tx_r L v i (i + 1)) * (tx_r L v i (i + 1)) : Nat) : Int) + (C (i + 1) : Int)) := by rw [ev26]; exact a25
  refine xa_iast hx hb hK hP hD hS 3 0 rfl rfl e1 i (by omega) (by omega) d_Text_findBestLine_26 (fun H locs hP hD hS => ?_)
  have hP : va_P (dC, dI) classes [(oT, .inr (3, [.int byt, .int wds, .int inw, .ref aL, .int lct, .int sqs, .ref aF, .ref aS, .ref aN])), (aL, .inl (cI, 100, .inl len)), (aF, .inl (cI, 100, .inl fwd)), (aS, .inl (cI, 101, .inl (upd lsm i v26))), (aN, .inl (cI, 101, .inl nxl))] H := hP
  have hD : va_D A [(oT, .inr (3, [.int byt, .int wds, .int inw, .ref aL, .int lct, .int sqs, .ref aF, .ref aS, .ref aN])), (aL, .inl (cI, 100, .inl len)), (aF, .inl (cI, 100, .inl fwd)), (aS, .inl (cI, 101, .inl (upd lsm i v26))), (aN, .inl (cI, 101, .inl nxl))] := hD
  refine lv_aload_n hx hb d_Text_findBestLine_27 rfl (lv_at hl 1 rfl) ?_
  refine va_get (D := (dC, dI)) (ci := 3) (v := .ref aN) (C := R_Text) (T := F_Text) (N := 9) hx hb hts hw_Text hown hK hP 0 rfl rfl 8 (by decide) (hts (.fieldLink R_Text 38 "PageForms$Text" "nextLine" "[I") (by decide +kernel)) (fun _ h9 => h9) rfl d_Text_findBestLine_28 ?_
  refine lv_iload_n hx hb d_Text_findBestLine_31 rfl (lv_at hl 2 rfl) ?_
  refine lv_iload_n hx hb d_Text_findBestLine_32 rfl (lv_at hl 2 rfl) ?_
  refine lv_iconst (v := 1) hx hb d_Text_findBestLine_33 (by decide) ?_
  refine lv_iadd hx hb d_Text_findBestLine_34 ?_
  refine lv_topi (fun v35 ev35 => ?_)
  have fv35 : v35.toInt = ((i : Int) + 1) := by rw [ev35]; exact a23
  refine xa_iast hx hb hK hP hD hS 4 0 rfl rfl e1 i (by omega) (by omega) d_Text_findBestLine_35 (fun H locs hP hD hS => ?_)
  have hP : va_P (dC, dI) classes [(oT, .inr (3, [.int byt, .int wds, .int inw, .ref aL, .int lct, .int sqs, .ref aF, .ref aS, .ref aN])), (aL, .inl (cI, 100, .inl len)), (aF, .inl (cI, 100, .inl fwd)), (aS, .inl (cI, 101, .inl (upd lsm i v26))), (aN, .inl (cI, 101, .inl (upd nxl i v35)))] H := hP
  have hD : va_D A [(oT, .inr (3, [.int byt, .int wds, .int inw, .ref aL, .int lct, .int sqs, .ref aF, .ref aS, .ref aN])), (aL, .inl (cI, 100, .inl len)), (aF, .inl (cI, 100, .inl fwd)), (aS, .inl (cI, 101, .inl (upd lsm i v26))), (aN, .inl (cI, 101, .inl (upd nxl i v35)))] := hD
  refine lv_iload_n hx hb d_Text_findBestLine_36 rfl (lv_at hl 2 rfl) ?_
  refine lv_iconst (v := 1) hx hb d_Text_findBestLine_37 (by decide) ?_
  refine lv_iadd hx hb d_Text_findBestLine_38 ?_
  refine lv_topi (fun v39 ev39 => ?_)
  have fv39 : v39.toInt = ((i : Int) + 1) := by rw [ev39]; exact a23
  refine lv_istore (lv' := [(4, .int v39), (3, .int v8), (0, .ref oT), (1, .int p1), (2, .int p2)]) hx hb d_Text_findBestLine_39 hl (by decide) rfl (fun ls hl => ?_)
  exact loop41 (w + 1) (i + 1) (tx_r L v i (i + 1) * tx_r L v i (i + 1) + C (i + 1)) (i + 1) v8 v39 (upd lsm i v26) (upd nxl i v35) (by omega) (by omega) (by omega) (by omega) hr1.1 (by rw [xi_upd_s]; omega) (by rw [xi_upd_s]; omega) (tx_bt_0 hLi.2) (fun j hj => xi_upd_n hj) (fun j hj => xi_upd_n hj) _ _ hP hD hS ls (lv_sub hl [2, 3, 4, 1, 0] rfl)

set_option maxHeartbeats 4000000 in
set_option maxRecDepth 100000 in
theorem k_Text_findLeastSums (l : Launch) (dC : Nat → ClassId) (dI : Nat → Nat → Nat) (cI cZ : ClassId) (oT : Nat) (aL : Nat) (aF : Nat) (aS : Nat) (aN : Nat) (byt : Int32) (wds : Int32) (inw : Int32) (lct : Int32) (sqs : Int32) (len : Nat → Int32) (fwd : Nat → Int32) (lsm : Nat → Int32) (nxl : Nat → Int32) (sz : Nat) (p1 : Int32) (w : Nat) (L : Nat → Nat) (v : Nat) (hw0 : wds.toInt = (w : Int)) (hw100 : w ≤ 100) (hL0 : ∀ j, j < w → (len j).toInt = (L j : Int) ∧ L j ≤ v) (e1 : p1.toInt = (v : Int)) (hv : v ≤ 100) : Met l y_Text_findLeastSums w_Text_findLeastSums ({ frames := 1, cells := 0, slots := 0, locals := 25 }) (va_Pc [.ref oT, .int p1] (fun U => U.heap.size = sz ∧ va_P (dC, dI) classes [(oT, .inr (3, [.int byt, .int wds, .int inw, .ref aL, .int lct, .int sqs, .ref aF, .ref aS, .ref aN])), (aL, .inl (cI, 100, .inl len)), (aF, .inl (cI, 100, .inl fwd)), (aS, .inl (cI, 101, .inl lsm)), (aN, .inl (cI, 101, .inl nxl))] U.heap ∧ va_K (dC, dI) classes [(cI, .int), (cZ, .boolean)] U ∧ va_D (fun _ => True) [(oT, .inr (3, [.int byt, .int wds, .int inw, .ref aL, .int lct, .int sqs, .ref aF, .ref aS, .ref aN])), (aL, .inl (cI, 100, .inl len)), (aF, .inl (cI, 100, .inl fwd)), (aS, .inl (cI, 101, .inl lsm)), (aN, .inl (cI, 101, .inl nxl))])) (va_Qv (fun (u : (Nat → Int32) × (Nat → Int32)) => tx_D L v w 0 (tx_nat u.1) (tx_nat u.2) ∧ (∀ j, j ≤ w → (u.1 j).toInt = (tx_nat u.1 j : Int)) ∧ (∀ j, j < w → (u.2 j).toInt = (tx_nat u.2 j : Int))) (fun (u : (Nat → Int32) × (Nat → Int32)) (t : State) => va_P (dC, dI) classes [(oT, .inr (3, [.int byt, .int wds, .int inw, .ref aL, .int lct, .int sqs, .ref aF, .ref aS, .ref aN])), (aL, .inl (cI, 100, .inl len)), (aF, .inl (cI, 100, .inl fwd)), (aS, .inl (cI, 101, .inl u.1)), (aN, .inl (cI, 101, .inl u.2))] t.heap ∧ va_K (dC, dI) classes [(cI, .int), (cZ, .boolean)] t ∧ va_D (va_A [(oT, .inr (3, [.int byt, .int wds, .int inw, .ref aL, .int lct, .int sqs, .ref aF, .ref aS, .ref aN])), (aL, .inl (cI, 100, .inl len)), (aF, .inl (cI, 100, .inl fwd)), (aS, .inl (cI, 101, .inl lsm)), (aN, .inl (cI, 101, .inl nxl))] sz) [(oT, .inr (3, [.int byt, .int wds, .int inw, .ref aL, .int lct, .int sqs, .ref aF, .ref aS, .ref aN])), (aL, .inl (cI, 100, .inl len)), (aF, .inl (cI, 100, .inl fwd)), (aS, .inl (cI, 101, .inl u.1)), (aN, .inl (cI, 101, .inl u.2))]) (va_A [(oT, .inr (3, [.int byt, .int wds, .int inw, .ref aL, .int lct, .int sqs, .ref aF, .ref aS, .ref aN])), (aL, .inl (cI, 100, .inl len)), (aF, .inl (cI, 100, .inl fwd)), (aS, .inl (cI, 101, .inl lsm)), (aN, .inl (cI, 101, .inl nxl))] sz)) 0 0 (va_A [(oT, .inr (3, [.int byt, .int wds, .int inw, .ref aL, .int lct, .int sqs, .ref aF, .ref aS, .ref aN])), (aL, .inl (cI, 100, .inl len)), (aF, .inl (cI, 100, .inl fwd)), (aS, .inl (cI, 101, .inl lsm)), (aN, .inl (cI, 101, .inl nxl))] sz) := by
  refine Met.ofW (cc := b_Text_findLeastSums) (maxL := 3) (ret := none) (by decide) rfl ?_
  intro p e s m args below meth c s₁ B hml hv
  obtain ⟨rfl, hsz, hP, hK, hD0⟩ := hv
  have hx := B.exec
  have hb := B.bytes
  have hr := B.returns
  have hts := atoms_spec (ws := w_Text_findLeastSums) B.pre
  have hown : s.vm.findClass R_Text = some m.cls := findClass_of_methodNamed B.named
  have hlocks := B.notSynchronized
  have hw_Text : ∀ w ∈ w_Text, w ∈ w_Text_findLeastSums := by decide +kernel
  subst hsz
  have hD := hD0.self (sz := s.heap.size)
  generalize hAe : va_A [(oT, .inr (3, [.int byt, .int wds, .int inw, .ref aL, .int lct, .int sqs, .ref aF, .ref aS, .ref aN])), (aL, .inl (cI, 100, .inl len)), (aF, .inl (cI, 100, .inl fwd)), (aS, .inl (cI, 101, .inl lsm)), (aN, .inl (cI, 101, .inl nxl))] s.heap.size = A at hD ⊢
  have hA : ∀ q : Nat, s.heap.size ≤ q → A q := fun q h => by rw [← hAe]; exact Or.inr h
  have hS : va_S A s.heap s.heap [] := va_S.rf
  have hP : va_P (dC, dI) classes [(oT, .inr (3, [.int byt, .int wds, .int inw, .ref aL, .int lct, .int sqs, .ref aF, .ref aS, .ref aN])), (aL, .inl (cI, 100, .inl len)), (aF, .inl (cI, 100, .inl fwd)), (aS, .inl (cI, 101, .inl lsm)), (aN, .inl (cI, 101, .inl nxl))] s.heap := hP
  have hl := lv_entry ([.ref oT, .int p1]) (n := 3) (Nat.le_of_ble_eq_true rfl)
  rw [lg_entry_eq]
  generalize (lg_sl ([.ref oT, .int p1]) ++ List.replicate (3 - (lg_sl ([.ref oT, .int p1])).length) Slot.unset).toArray = ls at hl ⊢
  have hl : lv_has ls 3 [(0, .ref oT), (1, .int p1)] := hl
  have loop17 : ∀ (n17 : Nat) (k : Nat) (x2 : Int32) (lsm1 : Nat → Int32) (nxl1 : Nat → Int32), (k < n17) → (k ≤ w) → (x2.toInt = (k : Int) - 1) → (tx_D L v w k (tx_nat lsm1) (tx_nat nxl1)) → (∀ j, k ≤ j → j ≤ w → (lsm1 j).toInt = (tx_nat lsm1 j : Int)) → (∀ j, k ≤ j → j < w → (nxl1 j).toInt = (tx_nat nxl1 j : Int)) → ∀ (H : Heap) (locs : List Loc), va_P (dC, dI) classes [(oT, .inr (3, [.int byt, .int wds, .int inw, .ref aL, .int lct, .int sqs, .ref aF, .ref aS, .ref aN])), (aL, .inl (cI, 100, .inl len)), (aF, .inl (cI, 100, .inl fwd)), (aS, .inl (cI, 101, .inl lsm1)), (aN, .inl (cI, 101, .inl nxl1))] H → va_D A [(oT, .inr (3, [.int byt, .int wds, .int inw, .ref aL, .int lct, .int sqs, .ref aF, .ref aS, .ref aN])), (aL, .inl (cI, 100, .inl len)), (aF, .inl (cI, 100, .inl fwd)), (aS, .inl (cI, 101, .inl lsm1)), (aN, .inl (cI, 101, .inl nxl1))] → va_S A s.heap H locs → ∀ (ls : Array Slot), lv_has ls 3 [(0, .ref oT), (1, .int p1), (2, .int x2)] → W p l e (headSpec w_Text_findLeastSums ({ frames := 1, cells := 0, slots := 0, locals := 25 })).room s m ([.ref oT, .int p1] : List Value).toArray below meth c H locs 0 0 (MQ below (va_Qv (fun (u : (Nat → Int32) × (Nat → Int32)) => tx_D L v w 0 (tx_nat u.1) (tx_nat u.2) ∧ (∀ j, j ≤ w → (u.1 j).toInt = (tx_nat u.1 j : Int)) ∧ (∀ j, j < w → (u.2 j).toInt = (tx_nat u.2 j : Int))) (fun (u : (Nat → Int32) × (Nat → Int32)) (t : State) => va_P (dC, dI) classes [(oT, .inr (3, [.int byt, .int wds, .int inw, .ref aL, .int lct, .int sqs, .ref aF, .ref aS, .ref aN])), (aL, .inl (cI, 100, .inl len)), (aF, .inl (cI, 100, .inl fwd)), (aS, .inl (cI, 101, .inl u.1)), (aN, .inl (cI, 101, .inl u.2))] t.heap ∧ va_K (dC, dI) classes [(cI, .int), (cZ, .boolean)] t ∧ va_D (A) [(oT, .inr (3, [.int byt, .int wds, .int inw, .ref aL, .int lct, .int sqs, .ref aF, .ref aS, .ref aN])), (aL, .inl (cI, 100, .inl len)), (aF, .inl (cI, 100, .inl fwd)), (aS, .inl (cI, 101, .inl u.1)), (aN, .inl (cI, 101, .inl u.2))]) (A)) ([.ref oT, .int p1] : List Value).toArray s 0 0 A) (F0 m 17 ls []) := by
    intro n17
    induction n17 with
    | zero => intro k x2 lsm1 nxl1 hmz17; omega
    | succ n17 ih17 =>
      intro k x2 lsm1 nxl1 hmz17 hk e2 hTD hl1 hl2 H locs hP hD hS ls hl
      refine lv_iload_n hx hb d_Text_findLeastSums_17 rfl (lv_at hl 2 rfl) ?_
      refine xi_if_lt (tgt := 33) hx hb e2 d_Text_findLeastSums_18 (by decide) (fun c18 => ?_) (fun c18 => ?_)
      · have hk0 : k = 0 := by omega
        rw [hk0] at hTD
        exact W.vret hx hb hr (fun t ht hW => ⟨⟨(lsm1, nxl1), rfl, (show tx_D L v w 0 (tx_nat lsm1) (tx_nat nxl1) ∧ (∀ j, j ≤ w → (lsm1 j).toInt = (tx_nat lsm1 j : Int)) ∧ (∀ j, j < w → (nxl1 j).toInt = (tx_nat nxl1 j : Int)) from ⟨hTD, fun j hj => hl1 j (by omega) hj, fun j hj => hl2 j (by omega) hj⟩), by rw [ht]; exact hP, va_K.moved hW.alike hK, hD⟩, hS.F ht⟩) hS.2.2 d_Text_findLeastSums_33
      · refine lv_aload_n hx hb d_Text_findLeastSums_21 rfl (lv_at hl 0 rfl) ?_
        refine lv_iload_n hx hb d_Text_findLeastSums_22 rfl (lv_at hl 2 rfl) ?_
        refine lv_iload_n hx hb d_Text_findLeastSums_23 rfl (lv_at hl 1 rfl) ?_
        have hPc := hP.sub (ws' := [(oT, .inr (3, [.int byt, .int wds, .int inw, .ref aL, .int lct, .int sqs, .ref aF, .ref aS, .ref aN])), (aL, .inl (cI, 100, .inl len)), (aF, .inl (cI, 100, .inl fwd)), (aS, .inl (cI, 101, .inl lsm1)), (aN, .inl (cI, 101, .inl nxl1))]) [0, 1, 2, 3, 4] rfl
        have hDc := hD.sub (ws' := [(oT, .inr (3, [.int byt, .int wds, .int inw, .ref aL, .int lct, .int sqs, .ref aF, .ref aS, .ref aN])), (aL, .inl (cI, 100, .inl len)), (aF, .inl (cI, 100, .inl fwd)), (aS, .inl (cI, 101, .inl lsm1)), (aN, .inl (cI, 101, .inl nxl1))]) [0, 1, 2, 3, 4] (by decide) rfl
        have hFc := va_free (wc := [(oT, .inr (3, [.int byt, .int wds, .int inw, .ref aL, .int lct, .int sqs, .ref aF, .ref aS, .ref aN])), (aL, .inl (cI, 100, .inl len)), (aF, .inl (cI, 100, .inl fwd)), (aS, .inl (cI, 101, .inl lsm1)), (aN, .inl (cI, 101, .inl nxl1))]) hD hS hA [0, 1, 2, 3, 4] rfl
        refine va_callv (va_runV (As := [.int x2, .int p1]) (rest := []) ⟨hx, hb, hml, hown, hts⟩ (k_Text_findBestLine l dC dI cI cZ oT aL aF aS aN byt wds inw lct sqs len fwd lsm1 nxl1 H.size x2 p1 w L v (k - 1) (tx_nat lsm1) hw0 hw100 hL0 (by omega) (by omega) e1 hv (tx_D_C hTD hl1)) (cwV 2 hts g_Text_findLeastSums_Text_findBestLine rfl rfl rfl (by decide +kernel) ⟨Nat.le_of_ble_eq_true rfl, Nat.le_of_ble_eq_true rfl⟩) ⟨fun a U g mk q => by obtain ⟨q0, q1, qP, qK, qD⟩ := q; exact ⟨q0, q1, qP, va_K.moved (u := U) (U := U.calling g mk a) (Vm.Alike.refl U.vm) qK, qD⟩, va_recv hK hPc (ci := 3) (q0 := 0) rfl rfl, fun U hU hW => ⟨rfl, by rw [hU], by rw [hU]; exact hPc, va_K.moved hW.alike hK, hDc.weaken (fun _ _ _ _ => trivial)⟩⟩ rfl rfl hl.1 rfl (lv_room (Nat.le_of_ble_eq_true rfl)) d_Text_findLeastSums_24 ⟨Nat.le_of_ble_eq_true rfl, Nat.le_of_ble_eq_true rfl⟩) hS (fun q _ h => hFc q h) hFc (fun u t H1 locs ht hvm hw hB hz1 hk1 hS => ?_)
        obtain ⟨lsm_24, nxl_24⟩ := u
        have w24 : ∃ cb nb : Nat, (lsm_24 (k - 1)).toInt = (cb : Int) ∧ (nxl_24 (k - 1)).toInt = (nb : Int) ∧ tx_bt L v (tx_nat lsm1) (k - 1) w cb nb ∧ (∀ j, j ≠ (k - 1) → lsm_24 j = lsm1 j) ∧ (∀ j, j ≠ (k - 1) → nxl_24 j = nxl1 j) := hw
        obtain ⟨hP1, hK1, hD1⟩ := hB
        rw [ht] at hP1
        obtain ⟨hP, hD⟩ := va_join (wr := []) (w1 := [(oT, .inr (3, [.int byt, .int wds, .int inw, .ref aL, .int lct, .int sqs, .ref aF, .ref aS, .ref aN])), (aL, .inl (cI, 100, .inl len)), (aF, .inl (cI, 100, .inl fwd)), (aS, .inl (cI, 101, .inl lsm_24)), (aN, .inl (cI, 101, .inl nxl_24))]) hP hD [0, 1, 2, 3, 4] [] rfl rfl (by decide) (by decide) hk1 hFc hP1 hD1
        generalize H1 = H at hP hS ⊢
        have hP : va_P (dC, dI) classes [(oT, .inr (3, [.int byt, .int wds, .int inw, .ref aL, .int lct, .int sqs, .ref aF, .ref aS, .ref aN])), (aL, .inl (cI, 100, .inl len)), (aF, .inl (cI, 100, .inl fwd)), (aS, .inl (cI, 101, .inl lsm_24)), (aN, .inl (cI, 101, .inl nxl_24))] H := hP
        have hD : va_D A [(oT, .inr (3, [.int byt, .int wds, .int inw, .ref aL, .int lct, .int sqs, .ref aF, .ref aS, .ref aN])), (aL, .inl (cI, 100, .inl len)), (aF, .inl (cI, 100, .inl fwd)), (aS, .inl (cI, 101, .inl lsm_24)), (aN, .inl (cI, 101, .inl nxl_24))] := hD
        obtain ⟨v27, ev27⟩ : ∃ y : Int32, y = (x2 + (-1)) := ⟨_, rfl⟩
        have fv27 : v27.toInt = (((k : Int) - 1) + (-1)) := by rw [ev27]; exact xi_add e2 (show ((-1) : Int32).toInt = -1 by decide) (by omega) (by omega)
        refine lv_iinc (v := v27) (lv' := [(2, .int v27), (0, .ref oT), (1, .int p1)]) hx hb d_Text_findLeastSums_27 hl (k := 2) rfl (by rw [ev27]; rfl) (by decide) rfl (fun ls hl => ?_)
        refine lv_goto (tgt := 17) hx hb d_Text_findLeastSums_30 (by decide) ?_
        obtain ⟨cb, nb, z1, z2, z3, z4, z5⟩ := w24
        have hst := tx_D_s (k := k - 1) (by omega) (by rw [show k - 1 + 1 = k by omega]; exact hTD) (fun j h1 h2 => hl1 j (by omega) h2) (fun j h1 h2 => hl2 j (by omega) h2) z1 z2 z3 z4 z5 hv (hL0 _ (by omega)).2
        exact ih17 (k - 1) v27 lsm_24 nxl_24 (by omega) (by omega) (by omega) hst.1 hst.2.1 hst.2.2 _ _ hP hD hS ls (lv_sub hl [1, 2, 0] rfl)
  refine lv_aload_n hx hb d_Text_findLeastSums_0 rfl (lv_at hl 0 rfl) ?_
  refine va_get (D := (dC, dI)) (ci := 3) (v := .ref aS) (C := R_Text) (T := F_Text) (N := 9) hx hb hts hw_Text hown hK hP 0 rfl rfl 7 (by decide) (hts (.fieldLink R_Text 35 "PageForms$Text" "leastSum" "[I") (by decide +kernel)) (fun _ h9 => h9) rfl d_Text_findLeastSums_1 ?_
  refine lv_aload_n hx hb d_Text_findLeastSums_4 rfl (lv_at hl 0 rfl) ?_
  refine va_get (D := (dC, dI)) (ci := 3) (v := .int wds) (C := R_Text) (T := F_Text) (N := 9) hx hb hts hw_Text hown hK hP 0 rfl rfl 1 (by decide) (hts (.fieldLink R_Text 15 "PageForms$Text" "words" "I") (by decide +kernel)) (fun _ h9 => h9) rfl d_Text_findLeastSums_5 ?_
  refine lv_iconst (v := 0) hx hb d_Text_findLeastSums_8 (by decide) ?_
  refine xa_iast hx hb hK hP hD hS 3 0 rfl rfl hw0 w (by omega) (by omega) d_Text_findLeastSums_9 (fun H locs hP hD hS => ?_)
  have hP : va_P (dC, dI) classes [(oT, .inr (3, [.int byt, .int wds, .int inw, .ref aL, .int lct, .int sqs, .ref aF, .ref aS, .ref aN])), (aL, .inl (cI, 100, .inl len)), (aF, .inl (cI, 100, .inl fwd)), (aS, .inl (cI, 101, .inl (upd lsm w 0))), (aN, .inl (cI, 101, .inl nxl))] H := hP
  have hD : va_D A [(oT, .inr (3, [.int byt, .int wds, .int inw, .ref aL, .int lct, .int sqs, .ref aF, .ref aS, .ref aN])), (aL, .inl (cI, 100, .inl len)), (aF, .inl (cI, 100, .inl fwd)), (aS, .inl (cI, 101, .inl (upd lsm w 0))), (aN, .inl (cI, 101, .inl nxl))] := hD
  refine lv_aload_n hx hb d_Text_findLeastSums_10 rfl (lv_at hl 0 rfl) ?_
  refine va_get (D := (dC, dI)) (ci := 3) (v := .int wds) (C := R_Text) (T := F_Text) (N := 9) hx hb hts hw_Text hown hK hP 0 rfl rfl 1 (by decide) (hts (.fieldLink R_Text 15 "PageForms$Text" "words" "I") (by decide +kernel)) (fun _ h9 => h9) rfl d_Text_findLeastSums_11 ?_
  refine lv_iconst (v := 1) hx hb d_Text_findLeastSums_14 (by decide) ?_
  refine lv_isub hx hb d_Text_findLeastSums_15 ?_
  have a15 : (wds - 1).toInt = ((w : Int) - 1) := xi_sub hw0 (show (1 : Int32).toInt = 1 by decide) (by omega) (by omega)
  refine lv_topi (fun v16 ev16 => ?_)
  have fv16 : v16.toInt = ((w : Int) - 1) := by rw [ev16]; exact a15
  refine lv_istore_n (lv' := [(2, .int v16), (0, .ref oT), (1, .int p1)]) hx hb d_Text_findLeastSums_16 rfl hl (by decide) rfl (fun ls hl => ?_)
  exact loop17 (w + 1) w v16 (upd lsm w 0) nxl (by omega) (by omega) (by omega) (tx_D_0 xi_upd_s) (fun j h1 h2 => by rw [show j = w by omega]; unfold tx_nat; rw [xi_upd_s]; decide) (fun j h1 h2 => by omega) _ _ hP hD hS ls (lv_sub hl [1, 2, 0] rfl)

set_option maxHeartbeats 4000000 in
set_option maxRecDepth 100000 in
theorem k_Text_keepBreak (l : Launch) (dC : Nat → ClassId) (dI : Nat → Nat → Nat) (cI cZ : ClassId) (oT : Nat) (aL : Nat) (aF : Nat) (aS : Nat) (aN : Nat) (byt : Int32) (wds : Int32) (inw : Int32) (lct : Int32) (sqs : Int32) (len : Nat → Int32) (fwd : Nat → Int32) (lsm : Nat → Int32) (nxl : Nat → Int32) (sz : Nat) (w : Nat) (N : Nat → Nat) (hw0 : wds.toInt = (w : Int)) (hw100 : w ≤ 100) (hN0 : ∀ j, j < w → (nxl j).toInt = (N j : Int) ∧ j < N j ∧ N j ≤ w) (hl0 : lct.toInt = 0) : Met l y_Text_keepBreak w_Text_keepBreak ({ frames := 0, cells := 0, slots := 0, locals := 0 }) (va_Pc [.ref oT] (fun U => U.heap.size = sz ∧ va_P (dC, dI) classes [(oT, .inr (3, [.int byt, .int wds, .int inw, .ref aL, .int lct, .int sqs, .ref aF, .ref aS, .ref aN])), (aL, .inl (cI, 100, .inl len)), (aF, .inl (cI, 100, .inl fwd)), (aS, .inl (cI, 101, .inl lsm)), (aN, .inl (cI, 101, .inl nxl))] U.heap ∧ va_K (dC, dI) classes [(cI, .int), (cZ, .boolean)] U ∧ va_D (fun _ => True) [(oT, .inr (3, [.int byt, .int wds, .int inw, .ref aL, .int lct, .int sqs, .ref aF, .ref aS, .ref aN])), (aL, .inl (cI, 100, .inl len)), (aF, .inl (cI, 100, .inl fwd)), (aS, .inl (cI, 101, .inl lsm)), (aN, .inl (cI, 101, .inl nxl))])) (va_Qv (fun (u : Int32 × Int32 × (Nat → Int32)) => ∃ q : Nat, u.1.toInt = (q : Int) ∧ q ≤ 100 ∧ tx_lines N w q u.2.2 ∧ u.2.1 = lsm 0) (fun (u : Int32 × Int32 × (Nat → Int32)) (t : State) => va_P (dC, dI) classes [(oT, .inr (3, [.int byt, .int wds, .int inw, .ref aL, .int u.1, .int u.2.1, .ref aF, .ref aS, .ref aN])), (aL, .inl (cI, 100, .inl len)), (aF, .inl (cI, 100, .inl u.2.2)), (aS, .inl (cI, 101, .inl lsm)), (aN, .inl (cI, 101, .inl nxl))] t.heap ∧ va_K (dC, dI) classes [(cI, .int), (cZ, .boolean)] t ∧ va_D (va_A [(oT, .inr (3, [.int byt, .int wds, .int inw, .ref aL, .int lct, .int sqs, .ref aF, .ref aS, .ref aN])), (aL, .inl (cI, 100, .inl len)), (aF, .inl (cI, 100, .inl fwd)), (aS, .inl (cI, 101, .inl lsm)), (aN, .inl (cI, 101, .inl nxl))] sz) [(oT, .inr (3, [.int byt, .int wds, .int inw, .ref aL, .int u.1, .int u.2.1, .ref aF, .ref aS, .ref aN])), (aL, .inl (cI, 100, .inl len)), (aF, .inl (cI, 100, .inl u.2.2)), (aS, .inl (cI, 101, .inl lsm)), (aN, .inl (cI, 101, .inl nxl))]) (va_A [(oT, .inr (3, [.int byt, .int wds, .int inw, .ref aL, .int lct, .int sqs, .ref aF, .ref aS, .ref aN])), (aL, .inl (cI, 100, .inl len)), (aF, .inl (cI, 100, .inl fwd)), (aS, .inl (cI, 101, .inl lsm)), (aN, .inl (cI, 101, .inl nxl))] sz)) 0 0 (va_A [(oT, .inr (3, [.int byt, .int wds, .int inw, .ref aL, .int lct, .int sqs, .ref aF, .ref aS, .ref aN])), (aL, .inl (cI, 100, .inl len)), (aF, .inl (cI, 100, .inl fwd)), (aS, .inl (cI, 101, .inl lsm)), (aN, .inl (cI, 101, .inl nxl))] sz) := by
  refine Met.ofW (cc := b_Text_keepBreak) (maxL := 2) (ret := none) (by decide) rfl ?_
  intro p e s m args below meth c s₁ B hml hv
  obtain ⟨rfl, hsz, hP, hK, hD0⟩ := hv
  have hx := B.exec
  have hb := B.bytes
  have hr := B.returns
  have hts := atoms_spec (ws := w_Text_keepBreak) B.pre
  have hown : s.vm.findClass R_Text = some m.cls := findClass_of_methodNamed B.named
  have hlocks := B.notSynchronized
  have hw_Text : ∀ w ∈ w_Text, w ∈ w_Text_keepBreak := by decide +kernel
  subst hsz
  have hD := hD0.self (sz := s.heap.size)
  generalize hAe : va_A [(oT, .inr (3, [.int byt, .int wds, .int inw, .ref aL, .int lct, .int sqs, .ref aF, .ref aS, .ref aN])), (aL, .inl (cI, 100, .inl len)), (aF, .inl (cI, 100, .inl fwd)), (aS, .inl (cI, 101, .inl lsm)), (aN, .inl (cI, 101, .inl nxl))] s.heap.size = A at hD ⊢
  have hA : ∀ q : Nat, s.heap.size ≤ q → A q := fun q h => by rw [← hAe]; exact Or.inr h
  have hS : va_S A s.heap s.heap [] := va_S.rf
  have hP : va_P (dC, dI) classes [(oT, .inr (3, [.int byt, .int wds, .int inw, .ref aL, .int lct, .int sqs, .ref aF, .ref aS, .ref aN])), (aL, .inl (cI, 100, .inl len)), (aF, .inl (cI, 100, .inl fwd)), (aS, .inl (cI, 101, .inl lsm)), (aN, .inl (cI, 101, .inl nxl))] s.heap := hP
  have hl := lv_entry ([.ref oT]) (n := 2) (Nat.le_of_ble_eq_true rfl)
  rw [lg_entry_eq]
  generalize (lg_sl ([.ref oT]) ++ List.replicate (2 - (lg_sl ([.ref oT])).length) Slot.unset).toArray = ls at hl ⊢
  have hl : lv_has ls 2 [(0, .ref oT)] := hl
  have loop2 : ∀ (n2 : Nat) (q : Nat) (x1 : Int32) (lct1 : Int32) (fwd1 : Nat → Int32), (w - tx_it N q < n2) → (q ≤ tx_it N q ∧ tx_it N q ≤ w) → (x1.toInt = (tx_it N q : Int)) → (lct1.toInt = (q : Int)) → (∀ t, t < q → tx_it N t < w ∧ (fwd1 t).toInt = (tx_it N t : Int)) → ∀ (H : Heap) (locs : List Loc), va_P (dC, dI) classes [(oT, .inr (3, [.int byt, .int wds, .int inw, .ref aL, .int lct1, .int sqs, .ref aF, .ref aS, .ref aN])), (aL, .inl (cI, 100, .inl len)), (aF, .inl (cI, 100, .inl fwd1)), (aS, .inl (cI, 101, .inl lsm)), (aN, .inl (cI, 101, .inl nxl))] H → va_D A [(oT, .inr (3, [.int byt, .int wds, .int inw, .ref aL, .int lct1, .int sqs, .ref aF, .ref aS, .ref aN])), (aL, .inl (cI, 100, .inl len)), (aF, .inl (cI, 100, .inl fwd1)), (aS, .inl (cI, 101, .inl lsm)), (aN, .inl (cI, 101, .inl nxl))] → va_S A s.heap H locs → ∀ (ls : Array Slot), lv_has ls 2 [(0, .ref oT), (1, .int x1)] → W p l e (headSpec w_Text_keepBreak ({ frames := 0, cells := 0, slots := 0, locals := 0 })).room s m ([.ref oT] : List Value).toArray below meth c H locs 0 0 (MQ below (va_Qv (fun (u : Int32 × Int32 × (Nat → Int32)) => ∃ q : Nat, u.1.toInt = (q : Int) ∧ q ≤ 100 ∧ tx_lines N w q u.2.2 ∧ u.2.1 = lsm 0) (fun (u : Int32 × Int32 × (Nat → Int32)) (t : State) => va_P (dC, dI) classes [(oT, .inr (3, [.int byt, .int wds, .int inw, .ref aL, .int u.1, .int u.2.1, .ref aF, .ref aS, .ref aN])), (aL, .inl (cI, 100, .inl len)), (aF, .inl (cI, 100, .inl u.2.2)), (aS, .inl (cI, 101, .inl lsm)), (aN, .inl (cI, 101, .inl nxl))] t.heap ∧ va_K (dC, dI) classes [(cI, .int), (cZ, .boolean)] t ∧ va_D (A) [(oT, .inr (3, [.int byt, .int wds, .int inw, .ref aL, .int u.1, .int u.2.1, .ref aF, .ref aS, .ref aN])), (aL, .inl (cI, 100, .inl len)), (aF, .inl (cI, 100, .inl u.2.2)), (aS, .inl (cI, 101, .inl lsm)), (aN, .inl (cI, 101, .inl nxl))]) (A)) ([.ref oT] : List Value).toArray s 0 0 A) (F0 m 2 ls []) := by
    intro n2
    induction n2 with
    | zero => intro q x1 lct1 fwd1 hmz2; omega
    | succ n2 ih2 =>
      intro q x1 lct1 fwd1 hmz2 hq e1 eL hfw H locs hP hD hS ls hl
      refine lv_iload_n hx hb d_Text_keepBreak_2 rfl (lv_at hl 1 rfl) ?_
      refine lv_aload_n hx hb d_Text_keepBreak_3 rfl (lv_at hl 0 rfl) ?_
      refine va_get (D := (dC, dI)) (ci := 3) (v := .int wds) (C := R_Text) (T := F_Text) (N := 9) hx hb hts hw_Text hown hK hP 0 rfl rfl 1 (by decide) (hts (.fieldLink R_Text 15 "PageForms$Text" "words" "I") (by decide +kernel)) (fun _ h9 => h9) rfl d_Text_keepBreak_4 ?_
      refine xi_icmp_ge (tgt := 49) hx hb e1 hw0 d_Text_keepBreak_7 (by decide) (fun c7 => ?_) (fun c7 => ?_)
      · refine lv_aload_n hx hb d_Text_keepBreak_49 rfl (lv_at hl 0 rfl) ?_
        refine lv_aload_n hx hb d_Text_keepBreak_50 rfl (lv_at hl 0 rfl) ?_
        refine va_get (D := (dC, dI)) (ci := 3) (v := .ref aS) (C := R_Text) (T := F_Text) (N := 9) hx hb hts hw_Text hown hK hP 0 rfl rfl 7 (by decide) (hts (.fieldLink R_Text 35 "PageForms$Text" "leastSum" "[I") (by decide +kernel)) (fun _ h9 => h9) rfl d_Text_keepBreak_51 ?_
        refine lv_iconst (v := 0) hx hb d_Text_keepBreak_54 (by decide) ?_
        refine xa_iald hx hb hK hP 3 0 rfl rfl (show (0 : Int32).toInt = 0 by decide) 0 (by omega) (by omega) d_Text_keepBreak_55 ?_
        refine lv_topi (fun v56 ev56 => ?_)
        refine va_put (D := (dC, dI)) (ci := 3) (v := .int v56) (ty := .int) (C := R_Text) (T := F_Text) (N := 9) hx hb hts hw_Text t_Text t_Text_ok n_Text hown hK hP hD hS 0 rfl rfl 5 (by decide) (hts (.fieldLink R_Text 29 "PageForms$Text" "squaresSum" "I") (by decide +kernel)) (fun _ h9 => h9) rfl (by decide +kernel) rfl rfl (Nat.le_of_ble_eq_true rfl) d_Text_keepBreak_56 (fun H locs hP hD hS => ?_)
        have hP : va_P (dC, dI) classes [(oT, .inr (3, [.int byt, .int wds, .int inw, .ref aL, .int lct1, .int v56, .ref aF, .ref aS, .ref aN])), (aL, .inl (cI, 100, .inl len)), (aF, .inl (cI, 100, .inl fwd1)), (aS, .inl (cI, 101, .inl lsm)), (aN, .inl (cI, 101, .inl nxl))] H := hP
        have hD : va_D A [(oT, .inr (3, [.int byt, .int wds, .int inw, .ref aL, .int lct1, .int v56, .ref aF, .ref aS, .ref aN])), (aL, .inl (cI, 100, .inl len)), (aF, .inl (cI, 100, .inl fwd1)), (aS, .inl (cI, 101, .inl lsm)), (aN, .inl (cI, 101, .inl nxl))] := hD
        have hqw : tx_it N q = w := by omega
        exact W.vret hx hb hr (fun t ht hW => ⟨⟨(lct1, v56, fwd1), rfl, (show ∃ q : Nat, lct1.toInt = (q : Int) ∧ q ≤ 100 ∧ tx_lines N w q fwd1 ∧ v56 = lsm 0 from ⟨q, eL, by omega, ⟨hqw, hfw⟩, ev56⟩), by rw [ht]; exact hP, va_K.moved hW.alike hK, hD⟩, hS.F ht⟩) hS.2.2 d_Text_keepBreak_59
      · refine lv_aload_n hx hb d_Text_keepBreak_10 rfl (lv_at hl 0 rfl) ?_
        refine va_get (D := (dC, dI)) (ci := 3) (v := .int lct1) (C := R_Text) (T := F_Text) (N := 9) hx hb hts hw_Text hown hK hP 0 rfl rfl 4 (by decide) (hts (.fieldLink R_Text 26 "PageForms$Text" "lineCount" "I") (by decide +kernel)) (fun _ h9 => h9) rfl d_Text_keepBreak_11 ?_
        refine lv_bipush (v := 100) hx hb d_Text_keepBreak_14 (by decide) ?_
        refine xi_icmp_ge (tgt := 49) hx hb eL (show (100 : Int32).toInt = 100 by decide) d_Text_keepBreak_16 (by decide) (fun c16 => absurd (show False by omega) id) (fun c16 => ?_)
        refine lv_aload_n hx hb d_Text_keepBreak_19 rfl (lv_at hl 0 rfl) ?_
        refine va_get (D := (dC, dI)) (ci := 3) (v := .ref aF) (C := R_Text) (T := F_Text) (N := 9) hx hb hts hw_Text hown hK hP 0 rfl rfl 6 (by decide) (hts (.fieldLink R_Text 32 "PageForms$Text" "firstWords" "[I") (by decide +kernel)) (fun _ h9 => h9) rfl d_Text_keepBreak_20 ?_
        refine lv_aload_n hx hb d_Text_keepBreak_23 rfl (lv_at hl 0 rfl) ?_
        refine va_get (D := (dC, dI)) (ci := 3) (v := .int lct1) (C := R_Text) (T := F_Text) (N := 9) hx hb hts hw_Text hown hK hP 0 rfl rfl 4 (by decide) (hts (.fieldLink R_Text 26 "PageForms$Text" "lineCount" "I") (by decide +kernel)) (fun _ h9 => h9) rfl d_Text_keepBreak_24 ?_
        refine lv_iload_n hx hb d_Text_keepBreak_27 rfl (lv_at hl 1 rfl) ?_
        refine xa_iast hx hb hK hP hD hS 2 0 rfl rfl eL q (by omega) (by omega) d_Text_keepBreak_28 (fun H locs hP hD hS => ?_)
        have hP : va_P (dC, dI) classes [(oT, .inr (3, [.int byt, .int wds, .int inw, .ref aL, .int lct1, .int sqs, .ref aF, .ref aS, .ref aN])), (aL, .inl (cI, 100, .inl len)), (aF, .inl (cI, 100, .inl (upd fwd1 q x1))), (aS, .inl (cI, 101, .inl lsm)), (aN, .inl (cI, 101, .inl nxl))] H := hP
        have hD : va_D A [(oT, .inr (3, [.int byt, .int wds, .int inw, .ref aL, .int lct1, .int sqs, .ref aF, .ref aS, .ref aN])), (aL, .inl (cI, 100, .inl len)), (aF, .inl (cI, 100, .inl (upd fwd1 q x1))), (aS, .inl (cI, 101, .inl lsm)), (aN, .inl (cI, 101, .inl nxl))] := hD
        refine lv_aload_n hx hb d_Text_keepBreak_29 rfl (lv_at hl 0 rfl) ?_
        refine lv_dup hx hb d_Text_keepBreak_30 rfl ?_
        refine va_get (D := (dC, dI)) (ci := 3) (v := .int lct1) (C := R_Text) (T := F_Text) (N := 9) hx hb hts hw_Text hown hK hP 0 rfl rfl 4 (by decide) (hts (.fieldLink R_Text 26 "PageForms$Text" "lineCount" "I") (by decide +kernel)) (fun _ h9 => h9) rfl d_Text_keepBreak_31 ?_
        refine lv_iconst (v := 1) hx hb d_Text_keepBreak_34 (by decide) ?_
        refine lv_iadd hx hb d_Text_keepBreak_35 ?_
        have a35 : (lct1 + 1).toInt = ((q : Int) + 1) := xi_add eL (show (1 : Int32).toInt = 1 by decide) (by omega) (by omega)
        refine lv_topi (fun v36 ev36 => ?_)
        have fv36 : v36.toInt = ((q : Int) + 1) := by rw [ev36]; exact a35
        refine va_put (D := (dC, dI)) (ci := 3) (v := .int v36) (ty := .int) (C := R_Text) (T := F_Text) (N := 9) hx hb hts hw_Text t_Text t_Text_ok n_Text hown hK hP hD hS 0 rfl rfl 4 (by decide) (hts (.fieldLink R_Text 26 "PageForms$Text" "lineCount" "I") (by decide +kernel)) (fun _ h9 => h9) rfl (by decide +kernel) rfl rfl (Nat.le_of_ble_eq_true rfl) d_Text_keepBreak_36 (fun H locs hP hD hS => ?_)
        have hP : va_P (dC, dI) classes [(oT, .inr (3, [.int byt, .int wds, .int inw, .ref aL, .int v36, .int sqs, .ref aF, .ref aS, .ref aN])), (aL, .inl (cI, 100, .inl len)), (aF, .inl (cI, 100, .inl (upd fwd1 q x1))), (aS, .inl (cI, 101, .inl lsm)), (aN, .inl (cI, 101, .inl nxl))] H := hP
        have hD : va_D A [(oT, .inr (3, [.int byt, .int wds, .int inw, .ref aL, .int v36, .int sqs, .ref aF, .ref aS, .ref aN])), (aL, .inl (cI, 100, .inl len)), (aF, .inl (cI, 100, .inl (upd fwd1 q x1))), (aS, .inl (cI, 101, .inl lsm)), (aN, .inl (cI, 101, .inl nxl))] := hD
        refine lv_aload_n hx hb d_Text_keepBreak_39 rfl (lv_at hl 0 rfl) ?_
        refine va_get (D := (dC, dI)) (ci := 3) (v := .ref aN) (C := R_Text) (T := F_Text) (N := 9) hx hb hts hw_Text hown hK hP 0 rfl rfl 8 (by decide) (hts (.fieldLink R_Text 38 "PageForms$Text" "nextLine" "[I") (by decide +kernel)) (fun _ h9 => h9) rfl d_Text_keepBreak_40 ?_
        refine lv_iload_n hx hb d_Text_keepBreak_43 rfl (lv_at hl 1 rfl) ?_
        refine xa_iald hx hb hK hP 4 0 rfl rfl e1 (tx_it N q) (by omega) (by omega) d_Text_keepBreak_44 ?_
        refine lv_istore_n (lv' := [(1, .int (nxl (tx_it N q))), (0, .ref oT)]) hx hb d_Text_keepBreak_45 rfl hl (by decide) rfl (fun ls hl => ?_)
        refine lv_goto (tgt := 2) hx hb d_Text_keepBreak_46 (by decide) ?_
        have hNx := hN0 (tx_it N q) (by omega)
        have hmn : w - tx_it N (q + 1) < w - tx_it N q := by rw [tx_it]; omega
        exact ih2 (q + 1) (nxl (tx_it N q)) v36 (upd fwd1 q x1) (by omega) (by rw [tx_it]; omega) (by rw [tx_it]; first | exact hNx.1 | (rw [ev45]; exact hNx.1)) (by omega) (tx_fw hfw (by omega) e1) _ _ hP hD hS ls (lv_sub hl [1, 0] rfl)
  refine lv_iconst (v := 0) hx hb d_Text_keepBreak_0 (by decide) ?_
  refine lv_istore_n (lv' := [(1, .int 0), (0, .ref oT)]) hx hb d_Text_keepBreak_1 rfl hl (by decide) rfl (fun ls hl => ?_)
  exact loop2 (w + 1) 0 0 lct fwd (by omega) ⟨Nat.le_refl _, Nat.zero_le _⟩ (show (0 : Int32).toInt = ((0 : Nat) : Int) by decide) hl0 (fun t h => by omega) _ _ hP hD hS ls (lv_sub hl [1, 0] rfl)

set_option maxHeartbeats 4000000 in
set_option maxRecDepth 100000 in
theorem k_Text_breakInto (l : Launch) (dC : Nat → ClassId) (dI : Nat → Nat → Nat) (cI cZ : ClassId) (oT : Nat) (aL : Nat) (aF : Nat) (aS : Nat) (aN : Nat) (byt : Int32) (wds : Int32) (inw : Int32) (lct : Int32) (sqs : Int32) (len : Nat → Int32) (fwd : Nat → Int32) (lsm : Nat → Int32) (nxl : Nat → Int32) (sz : Nat) (p1 : Int32) (w : Nat) (L : Nat → Nat) (hw0 : wds.toInt = (w : Int)) (hw100 : w ≤ 100) (hL0 : ∀ j, j < w → (len j).toInt = (L j : Int)) : Met l y_Text_breakInto w_Text_breakInto ({ frames := 2, cells := 0, slots := 0, locals := 47 }) (va_Pc [.ref oT, .int p1] (fun U => U.heap.size = sz ∧ va_P (dC, dI) classes [(oT, .inr (3, [.int byt, .int wds, .int inw, .ref aL, .int lct, .int sqs, .ref aF, .ref aS, .ref aN])), (aL, .inl (cI, 100, .inl len)), (aF, .inl (cI, 100, .inl fwd)), (aS, .inl (cI, 101, .inl lsm)), (aN, .inl (cI, 101, .inl nxl))] U.heap ∧ va_K (dC, dI) classes [(cI, .int), (cZ, .boolean)] U ∧ va_D (fun _ => True) [(oT, .inr (3, [.int byt, .int wds, .int inw, .ref aL, .int lct, .int sqs, .ref aF, .ref aS, .ref aN])), (aL, .inl (cI, 100, .inl len)), (aF, .inl (cI, 100, .inl fwd)), (aS, .inl (cI, 101, .inl lsm)), (aN, .inl (cI, 101, .inl nxl))])) (va_Qi (fun (r : Int32) (u : Int32 × Int32 × (Nat → Int32) × (Nat → Int32) × (Nat → Int32)) => tx_break w L lct sqs fwd p1 r u.1 u.2.1 u.2.2.1) (fun (u : Int32 × Int32 × (Nat → Int32) × (Nat → Int32) × (Nat → Int32)) (t : State) => va_P (dC, dI) classes [(oT, .inr (3, [.int byt, .int wds, .int inw, .ref aL, .int u.1, .int u.2.1, .ref aF, .ref aS, .ref aN])), (aL, .inl (cI, 100, .inl len)), (aF, .inl (cI, 100, .inl u.2.2.1)), (aS, .inl (cI, 101, .inl u.2.2.2.1)), (aN, .inl (cI, 101, .inl u.2.2.2.2))] t.heap ∧ va_K (dC, dI) classes [(cI, .int), (cZ, .boolean)] t ∧ va_D (va_A [(oT, .inr (3, [.int byt, .int wds, .int inw, .ref aL, .int lct, .int sqs, .ref aF, .ref aS, .ref aN])), (aL, .inl (cI, 100, .inl len)), (aF, .inl (cI, 100, .inl fwd)), (aS, .inl (cI, 101, .inl lsm)), (aN, .inl (cI, 101, .inl nxl))] sz) [(oT, .inr (3, [.int byt, .int wds, .int inw, .ref aL, .int u.1, .int u.2.1, .ref aF, .ref aS, .ref aN])), (aL, .inl (cI, 100, .inl len)), (aF, .inl (cI, 100, .inl u.2.2.1)), (aS, .inl (cI, 101, .inl u.2.2.2.1)), (aN, .inl (cI, 101, .inl u.2.2.2.2))]) (va_A [(oT, .inr (3, [.int byt, .int wds, .int inw, .ref aL, .int lct, .int sqs, .ref aF, .ref aS, .ref aN])), (aL, .inl (cI, 100, .inl len)), (aF, .inl (cI, 100, .inl fwd)), (aS, .inl (cI, 101, .inl lsm)), (aN, .inl (cI, 101, .inl nxl))] sz)) 0 0 (va_A [(oT, .inr (3, [.int byt, .int wds, .int inw, .ref aL, .int lct, .int sqs, .ref aF, .ref aS, .ref aN])), (aL, .inl (cI, 100, .inl len)), (aF, .inl (cI, 100, .inl fwd)), (aS, .inl (cI, 101, .inl lsm)), (aN, .inl (cI, 101, .inl nxl))] sz) := by
  refine Met.ofW (cc := b_Text_breakInto) (maxL := 2) (ret := (some .int)) (by decide) rfl ?_
  intro p e s m args below meth c s₁ B hml hv
  obtain ⟨rfl, hsz, hP, hK, hD0⟩ := hv
  have hx := B.exec
  have hb := B.bytes
  have hr := B.returns
  have hts := atoms_spec (ws := w_Text_breakInto) B.pre
  have hown : s.vm.findClass R_Text = some m.cls := findClass_of_methodNamed B.named
  have hlocks := B.notSynchronized
  have hw_Text : ∀ w ∈ w_Text, w ∈ w_Text_breakInto := by decide +kernel
  subst hsz
  have hD := hD0.self (sz := s.heap.size)
  generalize hAe : va_A [(oT, .inr (3, [.int byt, .int wds, .int inw, .ref aL, .int lct, .int sqs, .ref aF, .ref aS, .ref aN])), (aL, .inl (cI, 100, .inl len)), (aF, .inl (cI, 100, .inl fwd)), (aS, .inl (cI, 101, .inl lsm)), (aN, .inl (cI, 101, .inl nxl))] s.heap.size = A at hD ⊢
  have hA : ∀ q : Nat, s.heap.size ≤ q → A q := fun q h => by rw [← hAe]; exact Or.inr h
  have hS : va_S A s.heap s.heap [] := va_S.rf
  have hP : va_P (dC, dI) classes [(oT, .inr (3, [.int byt, .int wds, .int inw, .ref aL, .int lct, .int sqs, .ref aF, .ref aS, .ref aN])), (aL, .inl (cI, 100, .inl len)), (aF, .inl (cI, 100, .inl fwd)), (aS, .inl (cI, 101, .inl lsm)), (aN, .inl (cI, 101, .inl nxl))] s.heap := hP
  have hl := lv_entry ([.ref oT, .int p1]) (n := 2) (Nat.le_of_ble_eq_true rfl)
  rw [lg_entry_eq]
  generalize (lg_sl ([.ref oT, .int p1]) ++ List.replicate (2 - (lg_sl ([.ref oT, .int p1])).length) Slot.unset).toArray = ls at hl ⊢
  have hl : lv_has ls 2 [(0, .ref oT), (1, .int p1)] := hl
  refine lv_iload_n hx hb d_Text_breakInto_0 rfl (lv_at hl 1 rfl) ?_
  refine lv_iconst (v := 1) hx hb d_Text_breakInto_1 (by decide) ?_
  refine xi_icmp_lt (tgt := 11) hx hb (rfl) (show (1 : Int32).toInt = 1 by decide) d_Text_breakInto_2 (by decide) (fun c2 => ?_) (fun c2 => ?_)
  · refine lv_iconst (v := (-1)) hx hb d_Text_breakInto_11 (by decide) ?_
    exact W.iret (v := (-1)) hx hb hr (fun t ht hW => ⟨⟨(-1), (lct, sqs, fwd, lsm, nxl), rfl, (show tx_break w L lct sqs fwd p1 ((-1) : Int32) lct sqs fwd from (Or.inl ⟨by omega, by decide, rfl, rfl, rfl⟩)), by rw [ht]; exact hP, va_K.moved hW.alike hK, hD⟩, hS.F ht⟩) hS.2.2 d_Text_breakInto_12
  · refine lv_iload_n hx hb d_Text_breakInto_5 rfl (lv_at hl 1 rfl) ?_
    refine lv_bipush (v := 100) hx hb d_Text_breakInto_6 (by decide) ?_
    refine xi_icmp_le (tgt := 13) hx hb (rfl) (show (100 : Int32).toInt = 100 by decide) d_Text_breakInto_8 (by decide) (fun c8 => ?_) (fun c8 => ?_)
    · refine lv_aload_n hx hb d_Text_breakInto_13 rfl (lv_at hl 0 rfl) ?_
      have hPc := hP.sub (ws' := [(oT, .inr (3, [.int byt, .int wds, .int inw, .ref aL, .int lct, .int sqs, .ref aF, .ref aS, .ref aN])), (aL, .inl (cI, 100, .inl len)), (aF, .inl (cI, 100, .inl fwd)), (aS, .inl (cI, 101, .inl lsm)), (aN, .inl (cI, 101, .inl nxl))]) [0, 1, 2, 3, 4] rfl
      have hDc := hD.sub (ws' := [(oT, .inr (3, [.int byt, .int wds, .int inw, .ref aL, .int lct, .int sqs, .ref aF, .ref aS, .ref aN])), (aL, .inl (cI, 100, .inl len)), (aF, .inl (cI, 100, .inl fwd)), (aS, .inl (cI, 101, .inl lsm)), (aN, .inl (cI, 101, .inl nxl))]) [0, 1, 2, 3, 4] (by decide) rfl
      have hFc := va_free (wc := [(oT, .inr (3, [.int byt, .int wds, .int inw, .ref aL, .int lct, .int sqs, .ref aF, .ref aS, .ref aN])), (aL, .inl (cI, 100, .inl len)), (aF, .inl (cI, 100, .inl fwd)), (aS, .inl (cI, 101, .inl lsm)), (aN, .inl (cI, 101, .inl nxl))]) hD hS hA [0, 1, 2, 3, 4] rfl
      refine va_callv (va_runV (As := []) (rest := []) ⟨hx, hb, hml, hown, hts⟩ (k_Text_forgetBreak l dC dI cI cZ oT aL aF aS aN byt wds inw lct sqs len fwd lsm nxl s.heap.size) (cwV 0 hts g_Text_breakInto_Text_forgetBreak rfl rfl rfl (by decide +kernel) ⟨Nat.le_of_ble_eq_true rfl, Nat.le_of_ble_eq_true rfl⟩) ⟨fun a U g mk q => by obtain ⟨q0, q1, qP, qK, qD⟩ := q; exact ⟨q0, q1, qP, va_K.moved (u := U) (U := U.calling g mk a) (Vm.Alike.refl U.vm) qK, qD⟩, va_recv hK hPc (ci := 3) (q0 := 0) rfl rfl, fun U hU hW => ⟨rfl, by rw [hU], by rw [hU]; exact hPc, va_K.moved hW.alike hK, hDc.weaken (fun _ _ _ _ => trivial)⟩⟩ rfl rfl hl.1 rfl (lv_room (Nat.le_of_ble_eq_true rfl)) d_Text_breakInto_14 ⟨Nat.le_of_ble_eq_true rfl, Nat.le_of_ble_eq_true rfl⟩) hS (fun q _ h => hFc q h) hFc (fun u t H1 locs ht hvm hw hB hz1 hk1 hS => ?_)
      obtain ⟨lct_14, sqs_14⟩ := u
      have w14 : lct_14.toInt = 0 ∧ sqs_14.toInt = 0 := hw
      obtain ⟨hP1, hK1, hD1⟩ := hB
      rw [ht] at hP1
      obtain ⟨hP, hD⟩ := va_join (wr := []) (w1 := [(oT, .inr (3, [.int byt, .int wds, .int inw, .ref aL, .int lct_14, .int sqs_14, .ref aF, .ref aS, .ref aN])), (aL, .inl (cI, 100, .inl len)), (aF, .inl (cI, 100, .inl fwd)), (aS, .inl (cI, 101, .inl lsm)), (aN, .inl (cI, 101, .inl nxl))]) hP hD [0, 1, 2, 3, 4] [] rfl rfl (by decide) (by decide) hk1 hFc hP1 hD1
      generalize H1 = H at hP hS ⊢
      have hP : va_P (dC, dI) classes [(oT, .inr (3, [.int byt, .int wds, .int inw, .ref aL, .int lct_14, .int sqs_14, .ref aF, .ref aS, .ref aN])), (aL, .inl (cI, 100, .inl len)), (aF, .inl (cI, 100, .inl fwd)), (aS, .inl (cI, 101, .inl lsm)), (aN, .inl (cI, 101, .inl nxl))] H := hP
      have hD : va_D A [(oT, .inr (3, [.int byt, .int wds, .int inw, .ref aL, .int lct_14, .int sqs_14, .ref aF, .ref aS, .ref aN])), (aL, .inl (cI, 100, .inl len)), (aF, .inl (cI, 100, .inl fwd)), (aS, .inl (cI, 101, .inl lsm)), (aN, .inl (cI, 101, .inl nxl))] := hD
      obtain ⟨zl, zs⟩ := w14
      refine lv_aload_n hx hb d_Text_breakInto_17 rfl (lv_at hl 0 rfl) ?_
      refine lv_iload_n hx hb d_Text_breakInto_18 rfl (lv_at hl 1 rfl) ?_
      have hPc := hP.sub (ws' := [(oT, .inr (3, [.int byt, .int wds, .int inw, .ref aL, .int lct_14, .int sqs_14, .ref aF, .ref aS, .ref aN])), (aL, .inl (cI, 100, .inl len)), (aF, .inl (cI, 100, .inl fwd)), (aS, .inl (cI, 101, .inl lsm)), (aN, .inl (cI, 101, .inl nxl))]) [0, 1, 2, 3, 4] rfl
      have hDc := hD.sub (ws' := [(oT, .inr (3, [.int byt, .int wds, .int inw, .ref aL, .int lct_14, .int sqs_14, .ref aF, .ref aS, .ref aN])), (aL, .inl (cI, 100, .inl len)), (aF, .inl (cI, 100, .inl fwd)), (aS, .inl (cI, 101, .inl lsm)), (aN, .inl (cI, 101, .inl nxl))]) [0, 1, 2, 3, 4] (by decide) rfl
      have hFc := va_free (wc := [(oT, .inr (3, [.int byt, .int wds, .int inw, .ref aL, .int lct_14, .int sqs_14, .ref aF, .ref aS, .ref aN])), (aL, .inl (cI, 100, .inl len)), (aF, .inl (cI, 100, .inl fwd)), (aS, .inl (cI, 101, .inl lsm)), (aN, .inl (cI, 101, .inl nxl))]) hD hS hA [0, 1, 2, 3, 4] rfl
      refine va_calli (va_runV (As := [.int p1]) (rest := []) ⟨hx, hb, hml, hown, hts⟩ (k_Text_hasWordLongerThan l dC dI cI cZ oT aL aF aS aN byt wds inw lct_14 sqs_14 len fwd lsm nxl H.size p1 w L hw0 hw100 hL0) (cwV 1 hts g_Text_breakInto_Text_hasWordLongerThan rfl rfl rfl (by decide +kernel) ⟨Nat.le_of_ble_eq_true rfl, Nat.le_of_ble_eq_true rfl⟩) ⟨fun a U g mk q => by obtain ⟨q0, q1, qP, qK, qD⟩ := q; exact ⟨q0, q1, qP, va_K.moved (u := U) (U := U.calling g mk a) (Vm.Alike.refl U.vm) qK, qD⟩, va_recv hK hPc (ci := 3) (q0 := 0) rfl rfl, fun U hU hW => ⟨rfl, by rw [hU], by rw [hU]; exact hPc, va_K.moved hW.alike hK, hDc.weaken (fun _ _ _ _ => trivial)⟩⟩ rfl rfl hl.1 rfl (lv_room (Nat.le_of_ble_eq_true rfl)) d_Text_breakInto_19 ⟨Nat.le_of_ble_eq_true rfl, Nat.le_of_ble_eq_true rfl⟩) hS (fun q _ h => hFc q h) hFc (fun r19 u t H1 locs ht hvm hw hB hz1 hk1 hS => ?_)
      have w19 : (r19.toInt = 1 ∧ ∃ j, j < w ∧ p1.toInt < (L j : Int)) ∨ (r19.toInt = 0 ∧ ∀ j, j < w → (L j : Int) ≤ p1.toInt) := hw
      obtain ⟨hP1, hK1, hD1⟩ := hB
      rw [ht] at hP1
      obtain ⟨hP, hD⟩ := va_join (wr := []) (w1 := [(oT, .inr (3, [.int byt, .int wds, .int inw, .ref aL, .int lct_14, .int sqs_14, .ref aF, .ref aS, .ref aN])), (aL, .inl (cI, 100, .inl len)), (aF, .inl (cI, 100, .inl fwd)), (aS, .inl (cI, 101, .inl lsm)), (aN, .inl (cI, 101, .inl nxl))]) hP hD [0, 1, 2, 3, 4] [] rfl rfl (by decide) (by decide) hk1 hFc hP1 hD1
      generalize H1 = H at hP hS ⊢
      have hP : va_P (dC, dI) classes [(oT, .inr (3, [.int byt, .int wds, .int inw, .ref aL, .int lct_14, .int sqs_14, .ref aF, .ref aS, .ref aN])), (aL, .inl (cI, 100, .inl len)), (aF, .inl (cI, 100, .inl fwd)), (aS, .inl (cI, 101, .inl lsm)), (aN, .inl (cI, 101, .inl nxl))] H := hP
      have hD : va_D A [(oT, .inr (3, [.int byt, .int wds, .int inw, .ref aL, .int lct_14, .int sqs_14, .ref aF, .ref aS, .ref aN])), (aL, .inl (cI, 100, .inl len)), (aF, .inl (cI, 100, .inl fwd)), (aS, .inl (cI, 101, .inl lsm)), (aN, .inl (cI, 101, .inl nxl))] := hD
      refine xi_if_eq (tgt := 28) hx hb (rfl) d_Text_breakInto_22 (by decide) (fun c22 => ?_) (fun c22 => ?_)
      · have hsw : ∀ j, j < w → (L j : Int) ≤ p1.toInt := by rcases w19 with z | z; omega; exact z.2
        obtain ⟨v, hv⟩ : ∃ v : Nat, p1.toInt = (v : Int) := ⟨p1.toInt.toNat, by omega⟩
        refine lv_aload_n hx hb d_Text_breakInto_28 rfl (lv_at hl 0 rfl) ?_
        refine lv_iload_n hx hb d_Text_breakInto_29 rfl (lv_at hl 1 rfl) ?_
        have hPc := hP.sub (ws' := [(oT, .inr (3, [.int byt, .int wds, .int inw, .ref aL, .int lct_14, .int sqs_14, .ref aF, .ref aS, .ref aN])), (aL, .inl (cI, 100, .inl len)), (aF, .inl (cI, 100, .inl fwd)), (aS, .inl (cI, 101, .inl lsm)), (aN, .inl (cI, 101, .inl nxl))]) [0, 1, 2, 3, 4] rfl
        have hDc := hD.sub (ws' := [(oT, .inr (3, [.int byt, .int wds, .int inw, .ref aL, .int lct_14, .int sqs_14, .ref aF, .ref aS, .ref aN])), (aL, .inl (cI, 100, .inl len)), (aF, .inl (cI, 100, .inl fwd)), (aS, .inl (cI, 101, .inl lsm)), (aN, .inl (cI, 101, .inl nxl))]) [0, 1, 2, 3, 4] (by decide) rfl
        have hFc := va_free (wc := [(oT, .inr (3, [.int byt, .int wds, .int inw, .ref aL, .int lct_14, .int sqs_14, .ref aF, .ref aS, .ref aN])), (aL, .inl (cI, 100, .inl len)), (aF, .inl (cI, 100, .inl fwd)), (aS, .inl (cI, 101, .inl lsm)), (aN, .inl (cI, 101, .inl nxl))]) hD hS hA [0, 1, 2, 3, 4] rfl
        refine va_callv (va_runV (As := [.int p1]) (rest := []) ⟨hx, hb, hml, hown, hts⟩ (k_Text_findLeastSums l dC dI cI cZ oT aL aF aS aN byt wds inw lct_14 sqs_14 len fwd lsm nxl H.size p1 w L v hw0 hw100 (fun j hj => ⟨hL0 j hj, by have := hsw j hj; omega⟩) hv (by omega)) (cwV 1 hts g_Text_breakInto_Text_findLeastSums rfl rfl rfl (by decide +kernel) ⟨Nat.le_of_ble_eq_true rfl, Nat.le_of_ble_eq_true rfl⟩) ⟨fun a U g mk q => by obtain ⟨q0, q1, qP, qK, qD⟩ := q; exact ⟨q0, q1, qP, va_K.moved (u := U) (U := U.calling g mk a) (Vm.Alike.refl U.vm) qK, qD⟩, va_recv hK hPc (ci := 3) (q0 := 0) rfl rfl, fun U hU hW => ⟨rfl, by rw [hU], by rw [hU]; exact hPc, va_K.moved hW.alike hK, hDc.weaken (fun _ _ _ _ => trivial)⟩⟩ rfl rfl hl.1 rfl (lv_room (Nat.le_of_ble_eq_true rfl)) d_Text_breakInto_30 ⟨Nat.le_of_ble_eq_true rfl, Nat.le_of_ble_eq_true rfl⟩) hS (fun q _ h => hFc q h) hFc (fun u t H1 locs ht hvm hw hB hz1 hk1 hS => ?_)
        obtain ⟨lsm_30, nxl_30⟩ := u
        have w30 : tx_D L v w 0 (tx_nat lsm_30) (tx_nat nxl_30) ∧ (∀ j, j ≤ w → (lsm_30 j).toInt = (tx_nat lsm_30 j : Int)) ∧ (∀ j, j < w → (nxl_30 j).toInt = (tx_nat nxl_30 j : Int)) := hw
        obtain ⟨hP1, hK1, hD1⟩ := hB
        rw [ht] at hP1
        obtain ⟨hP, hD⟩ := va_join (wr := []) (w1 := [(oT, .inr (3, [.int byt, .int wds, .int inw, .ref aL, .int lct_14, .int sqs_14, .ref aF, .ref aS, .ref aN])), (aL, .inl (cI, 100, .inl len)), (aF, .inl (cI, 100, .inl fwd)), (aS, .inl (cI, 101, .inl lsm_30)), (aN, .inl (cI, 101, .inl nxl_30))]) hP hD [0, 1, 2, 3, 4] [] rfl rfl (by decide) (by decide) hk1 hFc hP1 hD1
        generalize H1 = H at hP hS ⊢
        have hP : va_P (dC, dI) classes [(oT, .inr (3, [.int byt, .int wds, .int inw, .ref aL, .int lct_14, .int sqs_14, .ref aF, .ref aS, .ref aN])), (aL, .inl (cI, 100, .inl len)), (aF, .inl (cI, 100, .inl fwd)), (aS, .inl (cI, 101, .inl lsm_30)), (aN, .inl (cI, 101, .inl nxl_30))] H := hP
        have hD : va_D A [(oT, .inr (3, [.int byt, .int wds, .int inw, .ref aL, .int lct_14, .int sqs_14, .ref aF, .ref aS, .ref aN])), (aL, .inl (cI, 100, .inl len)), (aF, .inl (cI, 100, .inl fwd)), (aS, .inl (cI, 101, .inl lsm_30)), (aN, .inl (cI, 101, .inl nxl_30))] := hD
        refine lv_aload_n hx hb d_Text_breakInto_33 rfl (lv_at hl 0 rfl) ?_
        have hPc := hP.sub (ws' := [(oT, .inr (3, [.int byt, .int wds, .int inw, .ref aL, .int lct_14, .int sqs_14, .ref aF, .ref aS, .ref aN])), (aL, .inl (cI, 100, .inl len)), (aF, .inl (cI, 100, .inl fwd)), (aS, .inl (cI, 101, .inl lsm_30)), (aN, .inl (cI, 101, .inl nxl_30))]) [0, 1, 2, 3, 4] rfl
        have hDc := hD.sub (ws' := [(oT, .inr (3, [.int byt, .int wds, .int inw, .ref aL, .int lct_14, .int sqs_14, .ref aF, .ref aS, .ref aN])), (aL, .inl (cI, 100, .inl len)), (aF, .inl (cI, 100, .inl fwd)), (aS, .inl (cI, 101, .inl lsm_30)), (aN, .inl (cI, 101, .inl nxl_30))]) [0, 1, 2, 3, 4] (by decide) rfl
        have hFc := va_free (wc := [(oT, .inr (3, [.int byt, .int wds, .int inw, .ref aL, .int lct_14, .int sqs_14, .ref aF, .ref aS, .ref aN])), (aL, .inl (cI, 100, .inl len)), (aF, .inl (cI, 100, .inl fwd)), (aS, .inl (cI, 101, .inl lsm_30)), (aN, .inl (cI, 101, .inl nxl_30))]) hD hS hA [0, 1, 2, 3, 4] rfl
        refine va_callv (va_runV (As := []) (rest := []) ⟨hx, hb, hml, hown, hts⟩ (k_Text_keepBreak l dC dI cI cZ oT aL aF aS aN byt wds inw lct_14 sqs_14 len fwd lsm_30 nxl_30 H.size w (tx_nat nxl_30) hw0 hw100 (fun j hj => ⟨w30.2.2 j hj, (w30.1.2 j (Nat.zero_le _) hj).2.1, (w30.1.2 j (Nat.zero_le _) hj).2.2.1⟩) zl) (cwV 0 hts g_Text_breakInto_Text_keepBreak rfl rfl rfl (by decide +kernel) ⟨Nat.le_of_ble_eq_true rfl, Nat.le_of_ble_eq_true rfl⟩) ⟨fun a U g mk q => by obtain ⟨q0, q1, qP, qK, qD⟩ := q; exact ⟨q0, q1, qP, va_K.moved (u := U) (U := U.calling g mk a) (Vm.Alike.refl U.vm) qK, qD⟩, va_recv hK hPc (ci := 3) (q0 := 0) rfl rfl, fun U hU hW => ⟨rfl, by rw [hU], by rw [hU]; exact hPc, va_K.moved hW.alike hK, hDc.weaken (fun _ _ _ _ => trivial)⟩⟩ rfl rfl hl.1 rfl (lv_room (Nat.le_of_ble_eq_true rfl)) d_Text_breakInto_34 ⟨Nat.le_of_ble_eq_true rfl, Nat.le_of_ble_eq_true rfl⟩) hS (fun q _ h => hFc q h) hFc (fun u t H1 locs ht hvm hw hB hz1 hk1 hS => ?_)
        obtain ⟨lct_34, sqs_34, fwd_34⟩ := u
        have w34 : ∃ q : Nat, lct_34.toInt = (q : Int) ∧ q ≤ 100 ∧ tx_lines (tx_nat nxl_30) w q fwd_34 ∧ sqs_34 = lsm_30 0 := hw
        obtain ⟨hP1, hK1, hD1⟩ := hB
        rw [ht] at hP1
        obtain ⟨hP, hD⟩ := va_join (wr := []) (w1 := [(oT, .inr (3, [.int byt, .int wds, .int inw, .ref aL, .int lct_34, .int sqs_34, .ref aF, .ref aS, .ref aN])), (aL, .inl (cI, 100, .inl len)), (aF, .inl (cI, 100, .inl fwd_34)), (aS, .inl (cI, 101, .inl lsm_30)), (aN, .inl (cI, 101, .inl nxl_30))]) hP hD [0, 1, 2, 3, 4] [] rfl rfl (by decide) (by decide) hk1 hFc hP1 hD1
        generalize H1 = H at hP hS ⊢
        have hP : va_P (dC, dI) classes [(oT, .inr (3, [.int byt, .int wds, .int inw, .ref aL, .int lct_34, .int sqs_34, .ref aF, .ref aS, .ref aN])), (aL, .inl (cI, 100, .inl len)), (aF, .inl (cI, 100, .inl fwd_34)), (aS, .inl (cI, 101, .inl lsm_30)), (aN, .inl (cI, 101, .inl nxl_30))] H := hP
        have hD : va_D A [(oT, .inr (3, [.int byt, .int wds, .int inw, .ref aL, .int lct_34, .int sqs_34, .ref aF, .ref aS, .ref aN])), (aL, .inl (cI, 100, .inl len)), (aF, .inl (cI, 100, .inl fwd_34)), (aS, .inl (cI, 101, .inl lsm_30)), (aN, .inl (cI, 101, .inl nxl_30))] := hD
        obtain ⟨q, zq1, zq2, zq3, zq4⟩ := w34
        refine lv_aload_n hx hb d_Text_breakInto_37 rfl (lv_at hl 0 rfl) ?_
        refine va_get (D := (dC, dI)) (ci := 3) (v := .int lct_34) (C := R_Text) (T := F_Text) (N := 9) hx hb hts hw_Text hown hK hP 0 rfl rfl 4 (by decide) (hts (.fieldLink R_Text 26 "PageForms$Text" "lineCount" "I") (by decide +kernel)) (fun _ h9 => h9) rfl d_Text_breakInto_38 ?_
        exact W.iret (v := lct_34) hx hb hr (fun t ht hW => ⟨⟨lct_34, (lct_34, sqs_34, fwd_34, lsm_30, nxl_30), rfl, (show tx_break w L lct sqs fwd p1 lct_34 lct_34 sqs_34 fwd_34 from (Or.inr (Or.inr ⟨by omega, by omega, fun j hj => hsw j hj, q, tx_nat lsm_30, tx_nat nxl_30, by rw [hv]; exact w30.1, zq1, zq1, zq2, zq3, by rw [zq4]; exact w30.2.1 0 (Nat.zero_le _)⟩))), by rw [ht]; exact hP, va_K.moved hW.alike hK, hD⟩, hS.F ht⟩) hS.2.2 d_Text_breakInto_41
      · refine lv_bipush (v := (-2)) hx hb d_Text_breakInto_25 (by decide) ?_
        have hlw : ∃ j, j < w ∧ p1.toInt < (L j : Int) := by rcases w19 with z | z; exact z.2; omega
        exact W.iret (v := (-2)) hx hb hr (fun t ht hW => ⟨⟨(-2), (lct_14, sqs_14, fwd, lsm, nxl), rfl, (show tx_break w L lct sqs fwd p1 ((-2) : Int32) lct_14 sqs_14 fwd from (Or.inr (Or.inl ⟨by omega, by omega, hlw, by decide, zl, zs⟩))), by rw [ht]; exact hP, va_K.moved hW.alike hK, hD⟩, hS.F ht⟩) hS.2.2 d_Text_breakInto_27
    · refine lv_iconst (v := (-1)) hx hb d_Text_breakInto_11 (by decide) ?_
      exact W.iret (v := (-1)) hx hb hr (fun t ht hW => ⟨⟨(-1), (lct, sqs, fwd, lsm, nxl), rfl, (show tx_break w L lct sqs fwd p1 ((-1) : Int32) lct sqs fwd from (Or.inl ⟨by omega, by decide, rfl, rfl, rfl⟩)), by rw [ht]; exact hP, va_K.moved hW.alike hK, hD⟩, hS.F ht⟩) hS.2.2 d_Text_breakInto_12
