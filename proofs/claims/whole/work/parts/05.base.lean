theorem xi_bmod {a : Int} (h1 : -2147483648 ≤ a) (h2 : a < 2147483648) : a.bmod (2 ^ 32) = a := by
  rw [Int.bmod_def]
  split <;> omega
theorem xi_add {x y : Int32} {a b : Int} (hx : x.toInt = a) (hy : y.toInt = b) (h1 : -2147483648 ≤ a + b) (h2 : a + b < 2147483648) : (x + y).toInt = a + b := by
  rw [Int32.toInt_add, hx, hy, xi_bmod h1 h2]
theorem xi_sub {x y : Int32} {a b : Int} (hx : x.toInt = a) (hy : y.toInt = b) (h1 : -2147483648 ≤ a - b) (h2 : a - b < 2147483648) : (x - y).toInt = a - b := by
  rw [Int32.toInt_sub, hx, hy, xi_bmod h1 h2]
theorem xi_mul {x y : Int32} {a b : Int} (hx : x.toInt = a) (hy : y.toInt = b) (h1 : -2147483648 ≤ a * b) (h2 : a * b < 2147483648) : (x * y).toInt = a * b := by
  rw [Int32.toInt_mul, hx, hy, xi_bmod h1 h2]
theorem xi_mulN {x y : Int32} {a b : Nat} (hx : x.toInt = (a : Int)) (hy : y.toInt = (b : Int)) (h : a * b < 2147483648) : (x * y).toInt = ((a * b : Nat) : Int) := by
  have e : ((a * b : Nat) : Int) = (a : Int) * (b : Int) := Int.natCast_mul a b
  rw [Int32.toInt_mul, hx, hy, ← e, xi_bmod (by omega) (by omega)]
theorem xi_eq {x y : Int32} {a b : Int} (hx : x.toInt = a) (hy : y.toInt = b) (h : a = b) : x = y := Int32.toInt_inj.mp (by rw [hx, hy]; exact h)
theorem xi_in {x : Int32} {a : Int} {n : Nat} (hx : x.toInt = a) (h0 : 0 ≤ a) (h1 : a < n) : vp_in x n := vp_in_iff.mpr (by rw [hx]; exact ⟨h0, h1⟩)
theorem xi_cl {x : Int32} {k : Nat} (hx : x.toInt = (k : Int)) : x.toNatClampNeg = k := by
  rw [← Int32.toNat_toInt, hx]; rfl
theorem xi_lo (x : Int32) : -2147483648 ≤ x.toInt := x.le_toInt
theorem xi_hi (x : Int32) : x.toInt < 2147483648 := x.toInt_lt
theorem xi_nI {n : Nat} (h : n < 2147483648) : (nI n).toInt = (n : Int) := nI_toInt h
theorem xi_of {x : Int32} {n : Nat} (hx : x.toInt = (n : Int)) : x = nI n := by
  have h := xi_hi x
  exact Int32.toInt_inj.mp (by rw [hx, xi_nI (by omega)])
theorem xi_upd_s {f : Nat → Int32} {k : Nat} {x : Int32} : upd f k x k = x := if_pos rfl
theorem xi_upd_n {f : Nat → Int32} {k j : Nat} {x : Int32} (h : j ≠ k) : upd f k x j = f j := if_neg h
theorem xi_nz {x : Int32} (h : x.toInt = 0 ∨ x.toInt = 1) : narrow .boolean (.int x) = .int x := by
  rcases h with h | h
  · rw [show x = 0 from Int32.toInt_inj.mp (by rw [h]; decide)]; rfl
  · rw [show x = 1 from Int32.toInt_inj.mp (by rw [h]; decide)]; rfl
theorem xi_arr {args : Array Value} {s : State} (h : (Cond.arrayClass .int).before args s = true) : ∃ cI : ClassId, ArrOfT s cI .int ∧ va_RA s cI .int := by
  obtain ⟨cA, kA, comp, hfind, hk, hkind⟩ := Cond.arrayClass_spec h
  exact ⟨cA, fun n z => ⟨fun k h => (by cases h), kA, hk, comp, hkind⟩, hfind⟩
/-- all arrays of a kind have one class -/
theorem xi_same {D : va_G} {cl : List vw_C} {tys : List (ClassId × FieldType)} {U : State} (h : va_K D cl tys U) {i j : Nat} {c d : ClassId} (hi : tys[i]? = some (c, .int)) (hj : tys[j]? = some (d, .int)) : d = c := by
  have h1 := (h.2 i _ hi).2
  have h2 := (h.2 j _ hj).2
  exact Option.some.inj (h2.symm.trans h1)
theorem xi_samez {D : va_G} {cl : List vw_C} {tys : List (ClassId × FieldType)} {U : State} (h : va_K D cl tys U) {i j : Nat} {c d : ClassId} (hi : tys[i]? = some (c, .boolean)) (hj : tys[j]? = some (d, .boolean)) : d = c := by
  have h1 := (h.2 i _ hi).2
  have h2 := (h.2 j _ hj).2
  exact Option.some.inj (h2.symm.trans h1)
theorem xi_arrz {args : Array Value} {s : State} (h : (Cond.arrayClass .boolean).before args s = true) : ∃ cI : ClassId, ArrOfT s cI .boolean ∧ va_RA s cI .boolean := by
  obtain ⟨cA, kA, comp, hfind, hk, hkind⟩ := Cond.arrayClass_spec h
  exact ⟨cA, fun n z => ⟨fun k h => (by cases h), kA, hk, comp, hkind⟩, hfind⟩
theorem xi_rem {x y : Int32} {a b : Int} (hx : x.toInt = a) (hy : y.toInt = b) (h0 : 0 ≤ a) (h1 : 0 < b) : (x - x / y * y).toInt = a % b := by
  obtain ⟨m, hm⟩ : ∃ m : Nat, a = (m : Int) := ⟨a.toNat, by omega⟩
  obtain ⟨d, hd⟩ : ∃ d : Nat, b = (d : Int) := ⟨b.toNat, by omega⟩
  have hm2 := xi_hi x
  have hd2 := xi_hi y
  subst hm hd
  rw [xi_of hx, xi_of hy, pk_rem (by omega) (by omega) (by omega), xi_nI (by have := Nat.mod_lt m (show d > 0 by omega); omega)]
  exact Int.natCast_emod m d
section XI
variable {p : Program} {l : Launch} {e : Env} {R : Room} {s : State} {m : MethodId} {args : Array Value} {below : List Frame} {meth : Method} {c : Code} {H : Heap} {locs : List Loc} {cells slots : Nat} {Q : State → Prop}
variable {cc : ByteArray} {pc : Nat} {ls : Array Slot} {rest : List Value} {D : va_G} {cl : List vw_C} {A : Nat → Prop} {a : Nat} {tys : List (ClassId × FieldType)} {ws : va_W} {H0 : Heap}
theorem xi_icmp_lt (hexec : p.tables.exec = Jvm.exec) (hb : c.code = cc) {x y : Int32} {a b : Int} (hx : x.toInt = a) (hy : y.toInt = b) {off : Int} {tgt : Nat} (hdg : decode cc pc = .ok (.if_icmp .lt off, 3)) (ht : (pc : Int) + off = (tgt : Int))
    (kt : a < b → W p l e R s m args below meth c H locs cells slots Q (F0 m tgt ls rest)) (kf : b ≤ a → W p l e R s m args below meth c H locs cells slots Q (F0 m (pc + 3) ls rest)) : W p l e R s m args below meth c H locs cells slots Q (F0 m pc ls (.int y :: .int x :: rest)) := by
  subst hx hy
  exact lv_icmp_lt hexec hb hdg ht (fun h => kt (by rw [Int32.lt_iff_toInt_lt] at h; first | exact h | omega)) (fun h => kf (by rw [Int32.lt_iff_toInt_lt] at h; first | exact h | omega))
theorem xi_if_lt (hexec : p.tables.exec = Jvm.exec) (hb : c.code = cc) {x : Int32} {a : Int} (hx : x.toInt = a) {off : Int} {tgt : Nat} (hdg : decode cc pc = .ok (.ifCond .lt off, 3)) (ht : (pc : Int) + off = (tgt : Int))
    (kt : a < 0 → W p l e R s m args below meth c H locs cells slots Q (F0 m tgt ls rest)) (kf : 0 ≤ a → W p l e R s m args below meth c H locs cells slots Q (F0 m (pc + 3) ls rest)) : W p l e R s m args below meth c H locs cells slots Q (F0 m pc ls (.int x :: rest)) := by
  subst hx
  exact lv_if_lt hexec hb hdg ht (fun h => kt (by rw [Int32.lt_iff_toInt_lt, Int32.toInt_zero] at h; first | exact h | omega)) (fun h => kf (by rw [Int32.lt_iff_toInt_lt, Int32.toInt_zero] at h; first | exact h | omega))
theorem xi_icmp_ge (hexec : p.tables.exec = Jvm.exec) (hb : c.code = cc) {x y : Int32} {a b : Int} (hx : x.toInt = a) (hy : y.toInt = b) {off : Int} {tgt : Nat} (hdg : decode cc pc = .ok (.if_icmp .ge off, 3)) (ht : (pc : Int) + off = (tgt : Int))
    (kt : b ≤ a → W p l e R s m args below meth c H locs cells slots Q (F0 m tgt ls rest)) (kf : a < b → W p l e R s m args below meth c H locs cells slots Q (F0 m (pc + 3) ls rest)) : W p l e R s m args below meth c H locs cells slots Q (F0 m pc ls (.int y :: .int x :: rest)) := by
  subst hx hy
  exact lv_icmp_ge hexec hb hdg ht (fun h => kt (by rw [Int32.le_iff_toInt_le] at h; first | exact h | omega)) (fun h => kf (by rw [Int32.le_iff_toInt_le] at h; first | exact h | omega))
theorem xi_if_ge (hexec : p.tables.exec = Jvm.exec) (hb : c.code = cc) {x : Int32} {a : Int} (hx : x.toInt = a) {off : Int} {tgt : Nat} (hdg : decode cc pc = .ok (.ifCond .ge off, 3)) (ht : (pc : Int) + off = (tgt : Int))
    (kt : 0 ≤ a → W p l e R s m args below meth c H locs cells slots Q (F0 m tgt ls rest)) (kf : a < 0 → W p l e R s m args below meth c H locs cells slots Q (F0 m (pc + 3) ls rest)) : W p l e R s m args below meth c H locs cells slots Q (F0 m pc ls (.int x :: rest)) := by
  subst hx
  exact lv_if_ge hexec hb hdg ht (fun h => kt (by rw [Int32.le_iff_toInt_le, Int32.toInt_zero] at h; first | exact h | omega)) (fun h => kf (by rw [Int32.le_iff_toInt_le, Int32.toInt_zero] at h; first | exact h | omega))
theorem xi_icmp_gt (hexec : p.tables.exec = Jvm.exec) (hb : c.code = cc) {x y : Int32} {a b : Int} (hx : x.toInt = a) (hy : y.toInt = b) {off : Int} {tgt : Nat} (hdg : decode cc pc = .ok (.if_icmp .gt off, 3)) (ht : (pc : Int) + off = (tgt : Int))
    (kt : b < a → W p l e R s m args below meth c H locs cells slots Q (F0 m tgt ls rest)) (kf : a ≤ b → W p l e R s m args below meth c H locs cells slots Q (F0 m (pc + 3) ls rest)) : W p l e R s m args below meth c H locs cells slots Q (F0 m pc ls (.int y :: .int x :: rest)) := by
  subst hx hy
  exact lv_icmp_gt hexec hb hdg ht (fun h => kt (by rw [Int32.lt_iff_toInt_lt] at h; first | exact h | omega)) (fun h => kf (by rw [Int32.lt_iff_toInt_lt] at h; first | exact h | omega))
theorem xi_if_gt (hexec : p.tables.exec = Jvm.exec) (hb : c.code = cc) {x : Int32} {a : Int} (hx : x.toInt = a) {off : Int} {tgt : Nat} (hdg : decode cc pc = .ok (.ifCond .gt off, 3)) (ht : (pc : Int) + off = (tgt : Int))
    (kt : 0 < a → W p l e R s m args below meth c H locs cells slots Q (F0 m tgt ls rest)) (kf : a ≤ 0 → W p l e R s m args below meth c H locs cells slots Q (F0 m (pc + 3) ls rest)) : W p l e R s m args below meth c H locs cells slots Q (F0 m pc ls (.int x :: rest)) := by
  subst hx
  exact lv_if_gt hexec hb hdg ht (fun h => kt (by rw [Int32.lt_iff_toInt_lt, Int32.toInt_zero] at h; first | exact h | omega)) (fun h => kf (by rw [Int32.lt_iff_toInt_lt, Int32.toInt_zero] at h; first | exact h | omega))
theorem xi_icmp_le (hexec : p.tables.exec = Jvm.exec) (hb : c.code = cc) {x y : Int32} {a b : Int} (hx : x.toInt = a) (hy : y.toInt = b) {off : Int} {tgt : Nat} (hdg : decode cc pc = .ok (.if_icmp .le off, 3)) (ht : (pc : Int) + off = (tgt : Int))
    (kt : a ≤ b → W p l e R s m args below meth c H locs cells slots Q (F0 m tgt ls rest)) (kf : b < a → W p l e R s m args below meth c H locs cells slots Q (F0 m (pc + 3) ls rest)) : W p l e R s m args below meth c H locs cells slots Q (F0 m pc ls (.int y :: .int x :: rest)) := by
  subst hx hy
  exact lv_icmp_le hexec hb hdg ht (fun h => kt (by rw [Int32.le_iff_toInt_le] at h; first | exact h | omega)) (fun h => kf (by rw [Int32.le_iff_toInt_le] at h; first | exact h | omega))
theorem xi_if_le (hexec : p.tables.exec = Jvm.exec) (hb : c.code = cc) {x : Int32} {a : Int} (hx : x.toInt = a) {off : Int} {tgt : Nat} (hdg : decode cc pc = .ok (.ifCond .le off, 3)) (ht : (pc : Int) + off = (tgt : Int))
    (kt : a ≤ 0 → W p l e R s m args below meth c H locs cells slots Q (F0 m tgt ls rest)) (kf : 0 < a → W p l e R s m args below meth c H locs cells slots Q (F0 m (pc + 3) ls rest)) : W p l e R s m args below meth c H locs cells slots Q (F0 m pc ls (.int x :: rest)) := by
  subst hx
  exact lv_if_le hexec hb hdg ht (fun h => kt (by rw [Int32.le_iff_toInt_le, Int32.toInt_zero] at h; first | exact h | omega)) (fun h => kf (by rw [Int32.le_iff_toInt_le, Int32.toInt_zero] at h; first | exact h | omega))
theorem xi_icmp_eq (hexec : p.tables.exec = Jvm.exec) (hb : c.code = cc) {x y : Int32} {a b : Int} (hx : x.toInt = a) (hy : y.toInt = b) {off : Int} {tgt : Nat} (hdg : decode cc pc = .ok (.if_icmp .eq off, 3)) (ht : (pc : Int) + off = (tgt : Int))
    (kt : a = b → W p l e R s m args below meth c H locs cells slots Q (F0 m tgt ls rest)) (kf : ¬ a = b → W p l e R s m args below meth c H locs cells slots Q (F0 m (pc + 3) ls rest)) : W p l e R s m args below meth c H locs cells slots Q (F0 m pc ls (.int y :: .int x :: rest)) := by
  subst hx hy
  exact lv_icmp_eq hexec hb hdg ht (fun h => kt (by rw [← Int32.toInt_inj] at h; first | exact h | omega)) (fun h => kf (by rw [← Int32.toInt_inj] at h; first | exact h | omega))
theorem xi_if_eq (hexec : p.tables.exec = Jvm.exec) (hb : c.code = cc) {x : Int32} {a : Int} (hx : x.toInt = a) {off : Int} {tgt : Nat} (hdg : decode cc pc = .ok (.ifCond .eq off, 3)) (ht : (pc : Int) + off = (tgt : Int))
    (kt : a = 0 → W p l e R s m args below meth c H locs cells slots Q (F0 m tgt ls rest)) (kf : ¬ a = 0 → W p l e R s m args below meth c H locs cells slots Q (F0 m (pc + 3) ls rest)) : W p l e R s m args below meth c H locs cells slots Q (F0 m pc ls (.int x :: rest)) := by
  subst hx
  exact lv_if_eq hexec hb hdg ht (fun h => kt (by rw [← Int32.toInt_inj, Int32.toInt_zero] at h; first | exact h | omega)) (fun h => kf (by rw [← Int32.toInt_inj, Int32.toInt_zero] at h; first | exact h | omega))
theorem xi_icmp_ne (hexec : p.tables.exec = Jvm.exec) (hb : c.code = cc) {x y : Int32} {a b : Int} (hx : x.toInt = a) (hy : y.toInt = b) {off : Int} {tgt : Nat} (hdg : decode cc pc = .ok (.if_icmp .ne off, 3)) (ht : (pc : Int) + off = (tgt : Int))
    (kt : ¬ a = b → W p l e R s m args below meth c H locs cells slots Q (F0 m tgt ls rest)) (kf : a = b → W p l e R s m args below meth c H locs cells slots Q (F0 m (pc + 3) ls rest)) : W p l e R s m args below meth c H locs cells slots Q (F0 m pc ls (.int y :: .int x :: rest)) := by
  subst hx hy
  exact lv_icmp_ne hexec hb hdg ht (fun h => kt (by rw [← Int32.toInt_inj] at h; first | exact h | omega)) (fun h => kf (by rw [← Int32.toInt_inj] at h; first | exact h | omega))
theorem xi_if_ne (hexec : p.tables.exec = Jvm.exec) (hb : c.code = cc) {x : Int32} {a : Int} (hx : x.toInt = a) {off : Int} {tgt : Nat} (hdg : decode cc pc = .ok (.ifCond .ne off, 3)) (ht : (pc : Int) + off = (tgt : Int))
    (kt : ¬ a = 0 → W p l e R s m args below meth c H locs cells slots Q (F0 m tgt ls rest)) (kf : a = 0 → W p l e R s m args below meth c H locs cells slots Q (F0 m (pc + 3) ls rest)) : W p l e R s m args below meth c H locs cells slots Q (F0 m pc ls (.int x :: rest)) := by
  subst hx
  exact lv_if_ne hexec hb hdg ht (fun h => kt (by rw [← Int32.toInt_inj, Int32.toInt_zero] at h; first | exact h | omega)) (fun h => kf (by rw [← Int32.toInt_inj, Int32.toInt_zero] at h; first | exact h | omega))
theorem xa_iald (hexec : p.tables.exec = Jvm.exec) (hb : c.code = cc) (hK : va_K D cl tys s) (hP : va_P D cl ws H) (q0 t0 : Nat) {cA : ClassId} {n : Nat} {f : Nat → Int32} (ha : ws[q0]? = some (a, .inl (cA, n, .inl f))) (ht : tys[t0]? = some (cA, .int)) {i : Int32} {z : Int} (hz : i.toInt = z) (k : Nat) (hk : z = (k : Int)) (hn : k < n) (hdg : decode cc pc = .ok (.iaload, 1))
    (kk : W p l e R s m args below meth c H locs cells slots Q (F0 m (pc + 1) ls (.int (f k) :: rest))) : W p l e R s m args below meth c H locs cells slots Q (F0 m pc ls (.int i :: .ref a :: rest)) := by
  have h1 : i.toInt = (k : Int) := hz.trans hk
  have h2 : i.toNatClampNeg = k := xi_cl h1
  refine va_iald hexec hb hK hP q0 t0 ha ht (xi_in h1 (by omega) (by omega)) hdg ?_
  rw [h2]
  exact kk
theorem xa_iast (hexec : p.tables.exec = Jvm.exec) (hb : c.code = cc) (hK : va_K D cl tys s) (hP : va_P D cl ws H) (hD : va_D A ws) (hS : va_S A H0 H locs) (q0 t0 : Nat) {cA : ClassId} {n : Nat} {f : Nat → Int32} (ha : ws[q0]? = some (a, .inl (cA, n, .inl f))) (ht : tys[t0]? = some (cA, .int)) {i : Int32} {x : Int32} {z : Int} (hz : i.toInt = z) (k : Nat) (hk : z = (k : Int)) (hn : k < n) (hdg : decode cc pc = .ok (.iastore, 1))
    (kk : ∀ (H1 : Heap) (locs1 : List Loc), va_P D cl (ws.set q0 (a, .inl (cA, n, .inl (upd f k x)))) H1 → va_D A (ws.set q0 (a, .inl (cA, n, .inl (upd f k x)))) → va_S A H0 H1 locs1 → W p l e R s m args below meth c H1 locs1 cells slots Q (F0 m (pc + 1) ls rest)) : W p l e R s m args below meth c H locs cells slots Q (F0 m pc ls (.int x :: .int i :: .ref a :: rest)) := by
  have h1 : i.toInt = (k : Int) := hz.trans hk
  have h2 : i.toNatClampNeg = k := xi_cl h1
  refine va_iast hexec hb hK hP hD hS q0 t0 ha ht (xi_in h1 (by omega) (by omega)) hdg ?_
  rw [h2]
  exact kk
theorem xa_zald (hexec : p.tables.exec = Jvm.exec) (hb : c.code = cc) (hK : va_K D cl tys s) (hP : va_P D cl ws H) (q0 t0 : Nat) {cA : ClassId} {n : Nat} {f : Nat → Int32} (ha : ws[q0]? = some (a, .inl (cA, n, .inl f))) (ht : tys[t0]? = some (cA, .boolean)) {i : Int32} {z : Int} (hz : i.toInt = z) (k : Nat) (hk : z = (k : Int)) (hn : k < n) (hdg : decode cc pc = .ok (.baload, 1))
    (kk : W p l e R s m args below meth c H locs cells slots Q (F0 m (pc + 1) ls (.int (f k) :: rest))) : W p l e R s m args below meth c H locs cells slots Q (F0 m pc ls (.int i :: .ref a :: rest)) := by
  have h1 : i.toInt = (k : Int) := hz.trans hk
  have h2 : i.toNatClampNeg = k := xi_cl h1
  refine va_zald hexec hb hK hP q0 t0 ha ht (xi_in h1 (by omega) (by omega)) hdg ?_
  rw [h2]
  exact kk
theorem xa_zast (hexec : p.tables.exec = Jvm.exec) (hb : c.code = cc) (hK : va_K D cl tys s) (hP : va_P D cl ws H) (hD : va_D A ws) (hS : va_S A H0 H locs) (q0 t0 : Nat) {cA : ClassId} {n : Nat} {f : Nat → Int32} (ha : ws[q0]? = some (a, .inl (cA, n, .inl f))) (ht : tys[t0]? = some (cA, .boolean)) {i : Int32} {x : Int32} {z : Int} (hz : i.toInt = z) (k : Nat) (hk : z = (k : Int)) (hn : k < n) (hnr : vp_nar .boolean x = x) (hdg : decode cc pc = .ok (.bastore, 1))
    (kk : ∀ (H1 : Heap) (locs1 : List Loc), va_P D cl (ws.set q0 (a, .inl (cA, n, .inl (upd f k x)))) H1 → va_D A (ws.set q0 (a, .inl (cA, n, .inl (upd f k x)))) → va_S A H0 H1 locs1 → W p l e R s m args below meth c H1 locs1 cells slots Q (F0 m (pc + 1) ls rest)) : W p l e R s m args below meth c H locs cells slots Q (F0 m pc ls (.int x :: .int i :: .ref a :: rest)) := by
  have h1 : i.toInt = (k : Int) := hz.trans hk
  have h2 : i.toNatClampNeg = k := xi_cl h1
  refine va_zast hexec hb hK hP hD hS q0 t0 ha ht (xi_in h1 (by omega) (by omega)) hdg ?_
  rw [h2, hnr]
  exact kk
end XI
