section XI
variable {p : Program} {l : Launch} {e : Env} {R : Room} {s : State} {m : MethodId} {args : Array Value} {below : List Frame} {meth : Method} {c : Code} {H : Heap} {locs : List Loc} {cells slots : Nat} {Q : State → Prop}
variable {cc : ByteArray} {pc : Nat} {ls : Array Slot} {rest : List Value} {D : va_G} {cl : List vw_C} {A : Nat → Prop} {a : Nat} {tys : List (ClassId × FieldType)} {ws : va_W} {H0 : Heap}
theorem xa_sld (hexec : p.tables.exec = Jvm.exec) (hb : c.code = cc) {b L : Nat} {xs : Nat → Int32} (hX : va_X b L xs s H0) (hbl : b < H0.size) (hbA : ¬ A b) (hS : va_S A H0 H locs) {i : Int32} {z : Int} (hz : i.toInt = z) (k : Nat) (hk : z = (k : Int)) (hn : k < L) (hdg : decode cc pc = .ok (.iaload, 1))
    (kk : W p l e R s m args below meth c H locs cells slots Q (F0 m (pc + 1) ls (.int (xs k) :: rest))) : W p l e R s m args below meth c H locs cells slots Q (F0 m pc ls (.int i :: .ref b :: rest)) := by
  have h1 : i.toInt = (k : Int) := hz.trans hk
  have h2 : i.toNatClampNeg = k := xi_cl h1
  refine va_sld hexec hb hX hbl hbA hS (xi_in h1 (by omega) (by omega)) hdg ?_
  rw [h2]
  exact kk
end XI
theorem nn_tbl : ∀ q ∈ nn_L, Cond.methodLinkNest R_PF q.1 q.2 "PageForms" ∈ lw_tbl := by decide +kernel
theorem rr_T0 : ∃ nB q, rr_T 0 0 0 (fun _ => 0) 0 0 (fun _ => 0) 0 (fun _ => 0) 0 0 (fun _ => 0) nB q := rr_clear ⟨by decide, by decide, by decide, by decide, by decide⟩ ⟨by decide, by decide, by decide⟩
theorem rr_B0 : rr_B 0 (fun _ => 0) 0 (fun _ => 0) := ⟨0, by decide, by decide, by decide, fun j hj => absurd hj (Nat.not_lt_zero _)⟩
theorem rr_G0 : ∃ wN hN, rr_G 1 1 (fun _ => 0) 1 1 (fun _ => 0) wN hN := ⟨1, 1, by decide, by decide, by decide, by decide, by decide, by decide, fun _ _ => rfl⟩
theorem rr_C0 : ∃ n, rr_C 0 (fun _ => 0) (fun _ => 0) 0 (fun _ => 0) (fun _ => 0) n := rr_wipe (by decide) ⟨by decide, fun _ _ => rfl⟩
