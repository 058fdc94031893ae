/-! THE REFERENCE'S GRID: where lines begin; runs and beginnings are one list -/
def gd_beg (th : Nat → Bool) (i : Nat) : Bool := decide (i = 0 ∨ ¬ th (i - 1) = th i)
def gd_bl (th : Nat → Bool) : Nat → List Nat
  | 0 => []
  | t + 1 => if gd_beg th t = true then gd_bl th t ++ [t] else gd_bl th t
theorem gd_bl_y {th : Nat → Bool} {t : Nat} (h : gd_beg th t = true) : gd_bl th (t + 1) = gd_bl th t ++ [t] := by rw [gd_bl]; exact if_pos h
theorem gd_bl_n {th : Nat → Bool} {t : Nat} (h : gd_beg th t = false) : gd_bl th (t + 1) = gd_bl th t := by rw [gd_bl]; exact if_neg (by rw [h]; decide)
def gd_run (th : Nat → Bool) (len a b : Nat) (v : Bool) : Prop := a < b ∧ b ≤ len ∧ v = th a ∧ (∀ s, a < s → s < b → th (s - 1) = th s) ∧ (b < len → ¬ th (b - 1) = th b)
theorem gd_const {th : Nat → Bool} {F t : Nat} (h : ∀ s, F < s → s ≤ t → th (s - 1) = th s) : ∀ d, F + d ≤ t → th (F + d) = th F := by
  intro d
  induction d with
  | zero => intro _; rfl
  | succ d ih =>
    intro hd
    have h1 := h (F + (d + 1)) (by omega) hd
    rw [← h1, show F + (d + 1) - 1 = F + d by omega]
    exact ih (by omega)
theorem gd_row_inv {th : Nat → Bool} {len : Nat} : ∀ t, t < len → (gd_row th len t).1.map (fun r => r.1) ++ [(gd_row th len t).2] = gd_bl th (t + 1) ∧ (∀ r ∈ (gd_row th len t).1, gd_run th len r.1 r.2.1 r.2.2) ∧ (gd_row th len t).2 ≤ t ∧ (∀ s, (gd_row th len t).2 < s → s ≤ t → th (s - 1) = th s) := by
  intro t
  induction t with
  | zero =>
    intro _
    exact ⟨rfl, fun r h => (by cases h), Nat.le_refl _, fun s h1 h2 => by omega⟩
  | succ t ih =>
    intro ht
    obtain ⟨h1, h2, h3, h4⟩ := ih (by omega)
    obtain ⟨d, hd⟩ : ∃ d, t = (gd_row th len t).2 + d := ⟨t - (gd_row th len t).2, by omega⟩
    have hc : th t = th (gd_row th len t).2 := by
      have := gd_const h4 d (by omega)
      rw [← hd] at this
      exact this
    by_cases hb : th (t + 1) = th (gd_row th len t).2
    · rw [gd_row_n (by omega) hb]
      have hg : gd_beg th (t + 1) = false := decide_eq_false (fun z => by
        rcases z with z | z
        · omega
        · exact z (by rw [hb, ← hc]; rfl))
      refine ⟨?_, h2, by omega, fun s g1 g2 => ?_⟩
      · rw [h1, gd_bl_n hg]
      · rcases Nat.lt_or_ge t s with q | q
        · rw [show s = t + 1 by omega, hb, ← hc]
          rfl
        · exact h4 s g1 q
    · rw [gd_row_y (Or.inr hb)]
      have hg : gd_beg th (t + 1) = true := decide_eq_true (Or.inr (fun z => hb (by rw [← z, ← hc]; rfl)))
      refine ⟨?_, fun r hr => ?_, Nat.le_refl _, fun s g1 g2 => by omega⟩
      · show ((gd_row th len t).1 ++ [((gd_row th len t).2, t + 1, th (gd_row th len t).2)]).map (fun r => r.1) ++ [t + 1] = gd_bl th (t + 1 + 1)
        rw [List.map_append, gd_bl_y hg, ← h1]
        rfl
      · rcases List.mem_append.mp hr with hr | hr
        · exact h2 r hr
        · rw [List.mem_singleton.mp hr]
          refine ⟨by show (gd_row th len t).2 < t + 1; omega, by show t + 1 ≤ len; omega, rfl, fun s g1 g2 => h4 s g1 (Nat.le_of_lt_succ g2), fun _ z => ?_⟩
          exact hb (by rw [← show th (t + 1 - 1) = th (t + 1) from z, ← hc]; rfl)
theorem gd_row_fin {th : Nat → Bool} {len : Nat} (hl : 1 ≤ len) : (gd_row th len len).1.map (fun r => r.1) = gd_bl th len ∧ ∀ r ∈ (gd_row th len len).1, gd_run th len r.1 r.2.1 r.2.2 := by
  obtain ⟨t, rfl⟩ : ∃ t, len = t + 1 := ⟨len - 1, by omega⟩
  obtain ⟨h1, h2, h3, h4⟩ := gd_row_inv (th := th) (len := t + 1) t (by omega)
  rw [gd_row_y (Or.inl rfl)]
  refine ⟨?_, fun r hr => ?_⟩
  · rw [List.map_append, ← h1]
    rfl
  · rcases List.mem_append.mp hr with hr | hr
    · exact h2 r hr
    · rw [List.mem_singleton.mp hr]
      exact ⟨by show (gd_row th (t + 1) t).2 < t + 1; omega, Nat.le_refl _, rfl, fun s g1 g2 => h4 s g1 (Nat.le_of_lt_succ g2), fun z => absurd z (Nat.lt_irrefl _)⟩
abbrev gm_L : Type := Int × Int × Int
def gm_a (y : Nat) (t : Nat) : gm_L := (0, (t : Int), (y : Int))
def gm_s (x : Nat) (t : Nat) : gm_L := (1, (x : Int), (t : Int))
def gm_cat (f : Nat → List gm_L) : Nat → List gm_L
  | 0 => []
  | n + 1 => gm_cat f n ++ f n
def gm_rowa (W H : Nat) (cg : Nat → Int32) (y : Nat) : List gm_L := (gd_bl (gd_a W H cg y) W).map (gm_a y)
def gm_rows (W H : Nat) (cg : Nat → Int32) (x : Nat) : List gm_L := (gd_bl (gd_s W H cg x) H).map (gm_s x)
def gm_all (W H : Nat) (cg : Nat → Int32) : List gm_L := gm_cat (gm_rowa W H cg) (H + 1) ++ gm_cat (gm_rows W H cg) (W + 1)
def gm_is (stn lnx lny : Int32) (q : gm_L) : Prop := stn.toInt = q.1 ∧ lnx.toInt = q.2.1 ∧ lny.toInt = q.2.2
def gm_K (p stn lnx lny : Int32) (G : List gm_L) : Prop := ∀ (k : Nat) (q : gm_L), p.toInt = (k : Int) → G[k]? = some q → gm_is stn lnx lny q
theorem gm_K_0 {p stn lnx lny : Int32} : gm_K p stn lnx lny [] := fun k q _ h => by simp at h
theorem gm_K_skip {p stn lnx lny : Int32} {G : List gm_L} {q0 : gm_L} (h : gm_K p stn lnx lny G) (hn : ¬ (G.length : Int) = p.toInt) : gm_K p stn lnx lny (G ++ [q0]) := by
  intro k q hk hq
  rcases Nat.lt_or_ge k G.length with a | a
  · rw [List.getElem?_append_left a] at hq
    exact h k q hk hq
  · rw [List.getElem?_append_right a] at hq
    have hz : k - G.length < 1 := (List.getElem?_eq_some_iff.mp hq).1
    omega
theorem gm_K_put {p stn lnx lny : Int32} {G : List gm_L} {q0 : gm_L} (h : gm_is stn lnx lny q0) (hn : (G.length : Int) = p.toInt) : gm_K p stn lnx lny (G ++ [q0]) := by
  intro k q hk hq
  have e : k = G.length := by omega
  subst e
  rw [List.getElem?_append_right (Nat.le_refl _), Nat.sub_self] at hq
  cases hq
  exact h
theorem gd_bl_len (th : Nat → Bool) : ∀ t, (gd_bl th t).length ≤ t := by
  intro t
  induction t with
  | zero => exact Nat.le_refl _
  | succ t ih =>
    rw [gd_bl]
    split
    · rw [List.length_append, List.length_singleton]; omega
    · omega
theorem gm_cat_len {f : Nat → List gm_L} (h : ∀ n, (f n).length ≤ 8) : ∀ n, (gm_cat f n).length ≤ 8 * n := by
  intro n
  induction n with
  | zero => exact Nat.le_refl _
  | succ n ih => rw [gm_cat, List.length_append]; have := h n; omega
theorem gm_rowa_len {W H : Nat} {cg : Nat → Int32} (hW : W ≤ 8) (y : Nat) : (gm_rowa W H cg y).length ≤ 8 := by
  unfold gm_rowa
  rw [List.length_map]
  have := gd_bl_len (gd_a W H cg y) W
  omega
theorem gm_rows_len {W H : Nat} {cg : Nat → Int32} (hH : H ≤ 8) (x : Nat) : (gm_rows W H cg x).length ≤ 8 := by
  unfold gm_rows
  rw [List.length_map]
  have := gd_bl_len (gd_s W H cg x) H
  omega
/-- a line and where it begins -/
abbrev gl_B : Type := Bool × Nat × Nat × Nat × Bool
def gl_L (b : gl_B) : gd_L := if b.1 = true then gd_ls b.2.1 b.2.2 else gd_la b.2.1 b.2.2
def gl_M (b : gl_B) : gm_L := if b.1 = true then gm_s b.2.1 b.2.2.1 else gm_a b.2.1 b.2.2.1
def gl_cat (f : Nat → List gl_B) : Nat → List gl_B
  | 0 => []
  | n + 1 => gl_cat f n ++ f n
theorem gl_cat_L (f : Nat → List gl_B) (g : Nat → List gd_L) (h : ∀ n, (f n).map gl_L = g n) : ∀ n, (gl_cat f n).map gl_L = gd_cat g n := by
  intro n
  induction n with
  | zero => rfl
  | succ n ih => rw [gl_cat, gd_cat, List.map_append, ih, h]
theorem gl_cat_M (f : Nat → List gl_B) (g : Nat → List gm_L) (h : ∀ n, (f n).map gl_M = g n) : ∀ n, (gl_cat f n).map gl_M = gm_cat g n := by
  intro n
  induction n with
  | zero => rfl
  | succ n ih => rw [gl_cat, gm_cat, List.map_append, ih, h]
theorem gl_cat_P {f : Nat → List gl_B} {Q : gl_B → Prop} {N : Nat} (h : ∀ n, n < N → ∀ b ∈ f n, Q b) : ∀ n, n ≤ N → ∀ b ∈ gl_cat f n, Q b := by
  intro n
  induction n with
  | zero => intro _ b hb; cases hb
  | succ n ih =>
    intro hn b hb
    rcases List.mem_append.mp hb with hb | hb
    · exact ih (by omega) b hb
    · exact h n (by omega) b hb
def gl_a (W H : Nat) (cg : Nat → Int32) (y : Nat) : List gl_B := (gd_row (gd_a W H cg y) W W).1.map (fun r => (false, y, r))
def gl_s (W H : Nat) (cg : Nat → Int32) (x : Nat) : List gl_B := (gd_row (gd_s W H cg x) H H).1.map (fun r => (true, x, r))
def gl_all (W H : Nat) (cg : Nat → Int32) : List gl_B := gl_cat (gl_a W H cg) (H + 1) ++ gl_cat (gl_s W H cg) (W + 1)
def gl_ok (W H : Nat) (cg : Nat → Int32) (b : gl_B) : Prop := (b.1 = false ∧ b.2.1 ≤ H ∧ gd_run (gd_a W H cg b.2.1) W b.2.2.1 b.2.2.2.1 b.2.2.2.2) ∨ (b.1 = true ∧ b.2.1 ≤ W ∧ gd_run (gd_s W H cg b.2.1) H b.2.2.1 b.2.2.2.1 b.2.2.2.2)
theorem gl_all_L (W H : Nat) (cg : Nat → Int32) : (gl_all W H cg).map gl_L = gd_all W H cg := by
  have e1 := gl_cat_L (gl_a W H cg) (gd_rowa W H cg) (fun n => by unfold gl_a gd_rowa; rw [List.map_map]; rfl) (H + 1)
  have e2 := gl_cat_L (gl_s W H cg) (gd_rows W H cg) (fun n => by unfold gl_s gd_rows; rw [List.map_map]; rfl) (W + 1)
  unfold gl_all gd_all
  rw [List.map_append, e1, e2]
theorem gl_all_M {W H : Nat} (hW : 1 ≤ W) (hH : 1 ≤ H) (cg : Nat → Int32) : (gl_all W H cg).map gl_M = gm_all W H cg := by
  have e1 := gl_cat_M (gl_a W H cg) (gm_rowa W H cg) (fun n => by unfold gl_a gm_rowa; rw [List.map_map, ← (gd_row_fin (th := gd_a W H cg n) hW).1, List.map_map]; rfl) (H + 1)
  have e2 := gl_cat_M (gl_s W H cg) (gm_rows W H cg) (fun n => by unfold gl_s gm_rows; rw [List.map_map, ← (gd_row_fin (th := gd_s W H cg n) hH).1, List.map_map]; rfl) (W + 1)
  unfold gl_all gm_all
  rw [List.map_append, e1, e2]
theorem gl_all_ok {W H : Nat} (hW : 1 ≤ W) (hH : 1 ≤ H) (cg : Nat → Int32) : ∀ b ∈ gl_all W H cg, gl_ok W H cg b := by
  intro b hb
  rcases List.mem_append.mp hb with hb | hb
  · refine gl_cat_P (N := H + 1) (fun n hn b hb => ?_) (H + 1) (Nat.le_refl _) b hb
    obtain ⟨r, hr, rfl⟩ := List.mem_map.mp hb
    exact Or.inl ⟨rfl, by show n ≤ H; omega, (gd_row_fin (th := gd_a W H cg n) hW).2 r hr⟩
  · refine gl_cat_P (N := W + 1) (fun n hn b hb => ?_) (W + 1) (Nat.le_refl _) b hb
    obtain ⟨r, hr, rfl⟩ := List.mem_map.mp hb
    exact Or.inr ⟨rfl, by show n ≤ W; omega, (gd_row_fin (th := gd_s W H cg n) hH).2 r hr⟩
theorem gl_len {W H : Nat} (hW : 1 ≤ W) (hH : 1 ≤ H) (cg : Nat → Int32) : (gm_all W H cg).length = (gd_all W H cg).length := by
  rw [← gl_all_L, ← gl_all_M hW hH, List.length_map, List.length_map]
/-- what the reference holds of line k is where line k begins -/
theorem gl_at {W H k : Nat} (hW : 1 ≤ W) (hH : 1 ≤ H) {cg : Nat → Int32} {p stn lnx lny : Int32} (hK : gm_K p stn lnx lny (gm_all W H cg)) (hp : p.toInt = (k : Int)) (hk : k < (gm_all W H cg).length) : ∃ b : gl_B, gl_ok W H cg b ∧ gm_is stn lnx lny (gl_M b) ∧ (gd_all W H cg)[k]? = some (gl_L b) := by
  have hk2 : k < (gl_all W H cg).length := by rw [← gl_all_M hW hH, List.length_map] at hk; exact hk
  refine ⟨(gl_all W H cg)[k], gl_all_ok hW hH cg _ (List.getElem_mem hk2), hK k _ hp ?_, ?_⟩
  · rw [← gl_all_M hW hH, List.getElem?_map, List.getElem?_eq_getElem hk2]
    rfl
  · rw [← gl_all_L, List.getElem?_map, List.getElem?_eq_getElem hk2]
    rfl
theorem gd_beg_in {th : Nat → Bool} {len a b : Nat} {v : Bool} (h : gd_run th len a b v) {t : Nat} (h1 : a < t) (h2 : t < b) : gd_beg th t = false := decide_eq_false (fun z => by
  rcases z with z | z
  · omega
  · exact z (h.2.2.2.1 t h1 h2))
theorem gd_beg_end {th : Nat → Bool} {len a b : Nat} {v : Bool} (h : gd_run th len a b v) (h1 : b < len) : gd_beg th b = true := decide_eq_true (Or.inr (h.2.2.2.2 h1))
theorem gm_ia {W i q : Nat} (h : 1 ≤ q) : i + W * (q - 1) = i + W * q - W := by
  obtain ⟨z, rfl⟩ : ∃ z, q = z + 1 := ⟨q - 1, by omega⟩
  rw [Nat.add_sub_cancel, Nat.mul_succ]
  omega
set_option maxHeartbeats 4000000 in
set_option maxRecDepth 100000 in
theorem k_Mod_grid (l : Launch) (dC : Nat → ClassId) (dI : Nat → Nat → Nat) (cI cZ : ClassId) (oM : Nat) (aCa : Nat) (thr : Int32) (aTx : Nat) (siz : Int32) (aBg : Nat) (aEn : Nat) (aLe : Nat) (aMa : Nat) (aFi : Nat) (lnm : Int32) (rsm : Int32) (aHe : Nat) (bxs : Int32) (wdt : Int32) (hgh : Int32) (aTo : Nat) (byn : Int32) (aTu : Nat) (pgm : Int32) (tpm : Int32) (stn : Int32) (lnx : Int32) (lny : Int32) (cgs : Nat → Int32) (sz : Nat) (p1 : Int32) (p2 : Int32) : Met l y_Mod_grid w_Mod_grid ({ frames := 1, cells := 0, slots := 0, locals := 22 }) (va_Pc [.ref oM, .int p1, .int p2] (fun U => U.heap.size = sz ∧ va_P (dC, dI) classes [(oM, .inr (5, [.int thr, .ref aTx, .int siz, .ref aBg, .ref aEn, .ref aLe, .ref aMa, .ref aFi, .int lnm, .int rsm, .ref aHe, .int bxs, .int wdt, .int hgh, .ref aCa, .ref aTo, .int byn, .ref aTu, .int pgm, .int tpm, .int stn, .int lnx, .int lny])), (aCa, .inl (cI, 64, .inl cgs))] U.heap ∧ va_K (dC, dI) classes [(cI, .int), (cZ, .boolean)] U ∧ va_D (fun _ => True) [(oM, .inr (5, [.int thr, .ref aTx, .int siz, .ref aBg, .ref aEn, .ref aLe, .ref aMa, .ref aFi, .int lnm, .int rsm, .ref aHe, .int bxs, .int wdt, .int hgh, .ref aCa, .ref aTo, .int byn, .ref aTu, .int pgm, .int tpm, .int stn, .int lnx, .int lny])), (aCa, .inl (cI, 64, .inl cgs))])) (va_Qi (fun (r : Int32) (u : Int32 × Int32 × Int32 × (Nat → Int32)) => gd_set wdt hgh cgs p1 p2 r u.2.1 u.2.2.1 u.2.2.2) (fun (u : Int32 × Int32 × Int32 × (Nat → Int32)) (t : State) => va_P (dC, dI) classes [(oM, .inr (5, [.int u.1, .ref aTx, .int siz, .ref aBg, .ref aEn, .ref aLe, .ref aMa, .ref aFi, .int lnm, .int rsm, .ref aHe, .int bxs, .int u.2.1, .int u.2.2.1, .ref aCa, .ref aTo, .int byn, .ref aTu, .int pgm, .int tpm, .int stn, .int lnx, .int lny])), (aCa, .inl (cI, 64, .inl u.2.2.2))] t.heap ∧ va_K (dC, dI) classes [(cI, .int), (cZ, .boolean)] t ∧ va_D (va_A [(oM, .inr (5, [.int thr, .ref aTx, .int siz, .ref aBg, .ref aEn, .ref aLe, .ref aMa, .ref aFi, .int lnm, .int rsm, .ref aHe, .int bxs, .int wdt, .int hgh, .ref aCa, .ref aTo, .int byn, .ref aTu, .int pgm, .int tpm, .int stn, .int lnx, .int lny])), (aCa, .inl (cI, 64, .inl cgs))] sz) [(oM, .inr (5, [.int u.1, .ref aTx, .int siz, .ref aBg, .ref aEn, .ref aLe, .ref aMa, .ref aFi, .int lnm, .int rsm, .ref aHe, .int bxs, .int u.2.1, .int u.2.2.1, .ref aCa, .ref aTo, .int byn, .ref aTu, .int pgm, .int tpm, .int stn, .int lnx, .int lny])), (aCa, .inl (cI, 64, .inl u.2.2.2))]) (va_A [(oM, .inr (5, [.int thr, .ref aTx, .int siz, .ref aBg, .ref aEn, .ref aLe, .ref aMa, .ref aFi, .int lnm, .int rsm, .ref aHe, .int bxs, .int wdt, .int hgh, .ref aCa, .ref aTo, .int byn, .ref aTu, .int pgm, .int tpm, .int stn, .int lnx, .int lny])), (aCa, .inl (cI, 64, .inl cgs))] sz)) 0 0 (va_A [(oM, .inr (5, [.int thr, .ref aTx, .int siz, .ref aBg, .ref aEn, .ref aLe, .ref aMa, .ref aFi, .int lnm, .int rsm, .ref aHe, .int bxs, .int wdt, .int hgh, .ref aCa, .ref aTo, .int byn, .ref aTu, .int pgm, .int tpm, .int stn, .int lnx, .int lny])), (aCa, .inl (cI, 64, .inl cgs))] sz) := by
  refine Met.ofW (cc := b_Mod_grid) (maxL := 4) (ret := (some .boolean)) (by decide) rfl ?_
  intro p e s m args below meth c s₁ B hml hv
  obtain ⟨rfl, hsz, hP, hK, hD0⟩ := hv
  have hx := B.exec
  have hb := B.bytes
  have hr := B.returns
  have hts := atoms_spec (ws := w_Mod_grid) B.pre
  have hown : s.vm.findClass R_Mod = some m.cls := findClass_of_methodNamed B.named
  have hlocks := B.notSynchronized
  have hw_Mod : ∀ w ∈ w_Mod, w ∈ w_Mod_grid := by decide +kernel
  subst hsz
  have hD := hD0.self (sz := s.heap.size)
  generalize hAe : va_A [(oM, .inr (5, [.int thr, .ref aTx, .int siz, .ref aBg, .ref aEn, .ref aLe, .ref aMa, .ref aFi, .int lnm, .int rsm, .ref aHe, .int bxs, .int wdt, .int hgh, .ref aCa, .ref aTo, .int byn, .ref aTu, .int pgm, .int tpm, .int stn, .int lnx, .int lny])), (aCa, .inl (cI, 64, .inl cgs))] s.heap.size = A at hD ⊢
  have hA : ∀ q : Nat, s.heap.size ≤ q → A q := fun q h => by rw [← hAe]; exact Or.inr h
  have hS : va_S A s.heap s.heap [] := va_S.rf
  have hP : va_P (dC, dI) classes [(oM, .inr (5, [.int thr, .ref aTx, .int siz, .ref aBg, .ref aEn, .ref aLe, .ref aMa, .ref aFi, .int lnm, .int rsm, .ref aHe, .int bxs, .int wdt, .int hgh, .ref aCa, .ref aTo, .int byn, .ref aTu, .int pgm, .int tpm, .int stn, .int lnx, .int lny])), (aCa, .inl (cI, 64, .inl cgs))] s.heap := hP
  have hl := lv_entry ([.ref oM, .int p1, .int p2]) (n := 4) (Nat.le_of_ble_eq_true rfl)
  rw [lg_entry_eq]
  generalize (lg_sl ([.ref oM, .int p1, .int p2]) ++ List.replicate (4 - (lg_sl ([.ref oM, .int p1, .int p2])).length) Slot.unset).toArray = ls at hl ⊢
  have hl : lv_has ls 4 [(0, .ref oM), (1, .int p1), (2, .int p2)] := hl
  have loop39 : ∀ (n39 : Nat) (k : Nat) (x3 : Int32) (cag1 : Nat → Int32), (64 - k < n39) → (gd_ok p1.toInt ∧ gd_ok p2.toInt) → (k ≤ 64) → (x3.toInt = (k : Int)) → (∀ j, j < k → cag1 j = 0) → ∀ (H : Heap) (locs : List Loc), va_P (dC, dI) classes [(oM, .inr (5, [.int 0, .ref aTx, .int siz, .ref aBg, .ref aEn, .ref aLe, .ref aMa, .ref aFi, .int lnm, .int rsm, .ref aHe, .int bxs, .int p1, .int p2, .ref aCa, .ref aTo, .int byn, .ref aTu, .int pgm, .int tpm, .int stn, .int lnx, .int lny])), (aCa, .inl (cI, 64, .inl cag1))] H → va_D A [(oM, .inr (5, [.int 0, .ref aTx, .int siz, .ref aBg, .ref aEn, .ref aLe, .ref aMa, .ref aFi, .int lnm, .int rsm, .ref aHe, .int bxs, .int p1, .int p2, .ref aCa, .ref aTo, .int byn, .ref aTu, .int pgm, .int tpm, .int stn, .int lnx, .int lny])), (aCa, .inl (cI, 64, .inl cag1))] → va_S A s.heap H locs → ∀ (ls : Array Slot), lv_has ls 4 [(0, .ref oM), (1, .int p1), (2, .int p2), (3, .int x3)] → W p l e (headSpec w_Mod_grid ({ frames := 1, cells := 0, slots := 0, locals := 22 })).room s m ([.ref oM, .int p1, .int p2] : List Value).toArray below meth c H locs 0 0 (MQ below (va_Qi (fun (r : Int32) (u : Int32 × Int32 × Int32 × (Nat → Int32)) => gd_set wdt hgh cgs p1 p2 r u.2.1 u.2.2.1 u.2.2.2) (fun (u : Int32 × Int32 × Int32 × (Nat → Int32)) (t : State) => va_P (dC, dI) classes [(oM, .inr (5, [.int u.1, .ref aTx, .int siz, .ref aBg, .ref aEn, .ref aLe, .ref aMa, .ref aFi, .int lnm, .int rsm, .ref aHe, .int bxs, .int u.2.1, .int u.2.2.1, .ref aCa, .ref aTo, .int byn, .ref aTu, .int pgm, .int tpm, .int stn, .int lnx, .int lny])), (aCa, .inl (cI, 64, .inl u.2.2.2))] t.heap ∧ va_K (dC, dI) classes [(cI, .int), (cZ, .boolean)] t ∧ va_D (A) [(oM, .inr (5, [.int u.1, .ref aTx, .int siz, .ref aBg, .ref aEn, .ref aLe, .ref aMa, .ref aFi, .int lnm, .int rsm, .ref aHe, .int bxs, .int u.2.1, .int u.2.2.1, .ref aCa, .ref aTo, .int byn, .ref aTu, .int pgm, .int tpm, .int stn, .int lnx, .int lny])), (aCa, .inl (cI, 64, .inl u.2.2.2))]) (A)) ([.ref oM, .int p1, .int p2] : List Value).toArray s 0 0 A) (F0 m 39 ls []) := by
    intro n39
    induction n39 with
    | zero => intro k x3 cag1 hmz39; omega
    | succ n39 ih39 =>
      intro k x3 cag1 hmz39 hv1 hk e3 hz H locs hP hD hS ls hl
      refine lv_iload_n hx hb d_Mod_grid_39 rfl (lv_at hl 3 rfl) ?_
      refine lv_bipush (v := 64) hx hb d_Mod_grid_40 (by decide) ?_
      refine xi_icmp_ge (tgt := 58) hx hb e3 (show (64 : Int32).toInt = 64 by decide) d_Mod_grid_42 (by decide) (fun c42 => ?_) (fun c42 => ?_)
      · refine lv_iconst (v := 1) hx hb d_Mod_grid_58 (by decide) ?_
        exact W.zret (v := 1) hx hb hr rfl (fun t ht hW => ⟨⟨1, (0, p1, p2, cag1), rfl, (show gd_set wdt hgh cgs p1 p2 (1 : Int32) p1 p2 cag1 from (Or.inl ⟨hv1.1, hv1.2, by decide, rfl, rfl, fun j hj => hz j (by omega)⟩)), by rw [ht]; exact hP, va_K.moved hW.alike hK, hD⟩, hS.F ht⟩) hS.2.2 d_Mod_grid_59
      · refine lv_aload_n hx hb d_Mod_grid_45 rfl (lv_at hl 0 rfl) ?_
        refine va_get (D := (dC, dI)) (ci := 5) (v := .ref aCa) (C := R_Mod) (T := F_Mod) (N := 23) hx hb hts hw_Mod hown hK hP 0 rfl rfl 14 (by decide) (hts (.fieldLink R_Mod 38 "PageFormsModel" "cages" "[I") (by decide +kernel)) (fun _ h9 => h9) rfl d_Mod_grid_46 ?_
        refine lv_iload_n hx hb d_Mod_grid_49 rfl (lv_at hl 3 rfl) ?_
        refine lv_iconst (v := 0) hx hb d_Mod_grid_50 (by decide) ?_
        refine xa_iast hx hb hK hP hD hS 1 0 rfl rfl e3 k (by omega) (by omega) d_Mod_grid_51 (fun H locs hP hD hS => ?_)
        have hP : va_P (dC, dI) classes [(oM, .inr (5, [.int 0, .ref aTx, .int siz, .ref aBg, .ref aEn, .ref aLe, .ref aMa, .ref aFi, .int lnm, .int rsm, .ref aHe, .int bxs, .int p1, .int p2, .ref aCa, .ref aTo, .int byn, .ref aTu, .int pgm, .int tpm, .int stn, .int lnx, .int lny])), (aCa, .inl (cI, 64, .inl (upd cag1 k 0)))] H := hP
        have hD : va_D A [(oM, .inr (5, [.int 0, .ref aTx, .int siz, .ref aBg, .ref aEn, .ref aLe, .ref aMa, .ref aFi, .int lnm, .int rsm, .ref aHe, .int bxs, .int p1, .int p2, .ref aCa, .ref aTo, .int byn, .ref aTu, .int pgm, .int tpm, .int stn, .int lnx, .int lny])), (aCa, .inl (cI, 64, .inl (upd cag1 k 0)))] := hD
        obtain ⟨v52, ev52⟩ : ∃ y : Int32, y = (x3 + 1) := ⟨_, rfl⟩
        have fv52 : v52.toInt = ((k : Int) + 1) := by rw [ev52]; exact xi_add e3 (show (1 : Int32).toInt = 1 by decide) (by omega) (by omega)
        refine lv_iinc (v := v52) (lv' := [(3, .int v52), (0, .ref oM), (1, .int p1), (2, .int p2)]) hx hb d_Mod_grid_52 hl (k := 3) rfl (by rw [ev52]; rfl) (by decide) rfl (fun ls hl => ?_)
        refine lv_goto (tgt := 39) hx hb d_Mod_grid_55 (by decide) ?_
        exact ih39 (k + 1) v52 (upd cag1 k 0) (by omega) hv1 (by omega) (by omega) (fun j hj => by rcases Nat.lt_or_ge j k with q | q; rw [xi_upd_n (by omega)]; exact hz j q; rw [show j = k by omega, xi_upd_s]) _ _ hP hD hS ls (lv_sub hl [1, 2, 3, 0] rfl)
  refine lv_aload_n hx hb d_Mod_grid_0 rfl (lv_at hl 0 rfl) ?_
  refine lv_iconst (v := 0) hx hb d_Mod_grid_1 (by decide) ?_
  refine va_put (D := (dC, dI)) (ci := 5) (v := .int 0) (ty := .int) (C := R_Mod) (T := F_Mod) (N := 23) hx hb hts hw_Mod t_Mod t_Mod_ok n_Mod hown hK hP hD hS 0 rfl rfl 0 (by decide) (hts (.fieldLink R_Mod 48 "PageFormsModel" "thrown" "I") (by decide +kernel)) (fun _ h9 => h9) rfl (by decide +kernel) rfl rfl (Nat.le_of_ble_eq_true rfl) d_Mod_grid_2 (fun H locs hP hD hS => ?_)
  have hP : va_P (dC, dI) classes [(oM, .inr (5, [.int 0, .ref aTx, .int siz, .ref aBg, .ref aEn, .ref aLe, .ref aMa, .ref aFi, .int lnm, .int rsm, .ref aHe, .int bxs, .int wdt, .int hgh, .ref aCa, .ref aTo, .int byn, .ref aTu, .int pgm, .int tpm, .int stn, .int lnx, .int lny])), (aCa, .inl (cI, 64, .inl cgs))] H := hP
  have hD : va_D A [(oM, .inr (5, [.int 0, .ref aTx, .int siz, .ref aBg, .ref aEn, .ref aLe, .ref aMa, .ref aFi, .int lnm, .int rsm, .ref aHe, .int bxs, .int wdt, .int hgh, .ref aCa, .ref aTo, .int byn, .ref aTu, .int pgm, .int tpm, .int stn, .int lnx, .int lny])), (aCa, .inl (cI, 64, .inl cgs))] := hD
  refine lv_iload_n hx hb d_Mod_grid_5 rfl (lv_at hl 1 rfl) ?_
  refine lv_iconst (v := 1) hx hb d_Mod_grid_6 (by decide) ?_
  refine lv_bipush (v := 8) hx hb d_Mod_grid_7 (by decide) ?_
  have hPc := hP.sub (ws' := []) [] rfl
  have hDc := hD.sub (ws' := []) [] (by decide) rfl
  have hFc := va_free (wc := []) hD hS hA [] rfl
  refine va_calli (va_runS (As := [.int p1, .int 1, .int 8]) (rest := []) ⟨hx, hb, hml, hown, hts⟩ (k_Mod_within l dC dI cI cZ H.size p1 1 8) (cwS 3 hts g_Mod_grid_Mod_within rfl rfl rfl (by decide +kernel) ⟨Nat.le_of_ble_eq_true rfl, Nat.le_of_ble_eq_true rfl⟩) ⟨fun a U g mk q => by obtain ⟨q0, q1, qP, qK, qD⟩ := q; exact ⟨q0, q1, qP, va_K.moved (u := U) (U := U.calling g mk a) (Vm.Alike.refl U.vm) qK, qD⟩, fun U hU hW => ⟨rfl, by rw [hU], by rw [hU]; exact hPc, va_K.moved hW.alike hK, hDc.weaken (fun _ _ _ _ => trivial)⟩⟩ rfl rfl hl.1 rfl (lv_room (Nat.le_of_ble_eq_true rfl)) d_Mod_grid_9 ⟨Nat.le_of_ble_eq_true rfl, Nat.le_of_ble_eq_true rfl⟩) hS (fun q _ h => hFc q h) hFc (fun r9 u t H1 locs ht hvm hw hB hz1 hk1 hS => ?_)
  have w9 : (r9.toInt = 1 ∧ 1 ≤ p1.toInt ∧ p1.toInt ≤ 8) ∨ (r9.toInt = 0 ∧ (p1.toInt < 1 ∨ 8 < p1.toInt)) := hw
  obtain ⟨hP1, hK1, hD1⟩ := hB
  rw [ht] at hP1
  obtain ⟨hP, hD⟩ := va_join (wr := [(oM, .inr (5, [.int 0, .ref aTx, .int siz, .ref aBg, .ref aEn, .ref aLe, .ref aMa, .ref aFi, .int lnm, .int rsm, .ref aHe, .int bxs, .int wdt, .int hgh, .ref aCa, .ref aTo, .int byn, .ref aTu, .int pgm, .int tpm, .int stn, .int lnx, .int lny])), (aCa, .inl (cI, 64, .inl cgs))]) (w1 := []) hP hD [] [0, 1] rfl rfl (by decide) (by decide) hk1 hFc hP1 hD1
  generalize H1 = H at hP hS ⊢
  have hP : va_P (dC, dI) classes [(oM, .inr (5, [.int 0, .ref aTx, .int siz, .ref aBg, .ref aEn, .ref aLe, .ref aMa, .ref aFi, .int lnm, .int rsm, .ref aHe, .int bxs, .int wdt, .int hgh, .ref aCa, .ref aTo, .int byn, .ref aTu, .int pgm, .int tpm, .int stn, .int lnx, .int lny])), (aCa, .inl (cI, 64, .inl cgs))] H := hP
  have hD : va_D A [(oM, .inr (5, [.int 0, .ref aTx, .int siz, .ref aBg, .ref aEn, .ref aLe, .ref aMa, .ref aFi, .int lnm, .int rsm, .ref aHe, .int bxs, .int wdt, .int hgh, .ref aCa, .ref aTo, .int byn, .ref aTu, .int pgm, .int tpm, .int stn, .int lnx, .int lny])), (aCa, .inl (cI, 64, .inl cgs))] := hD
  refine xi_if_eq (tgt := 25) hx hb (rfl) d_Mod_grid_12 (by decide) (fun c12 => ?_) (fun c12 => ?_)
  · refine lv_iconst (v := 0) hx hb d_Mod_grid_25 (by decide) ?_
    exact W.zret (v := 0) hx hb hr rfl (fun t ht hW => ⟨⟨0, (0, wdt, hgh, cgs), rfl, (show gd_set wdt hgh cgs p1 p2 (0 : Int32) wdt hgh cgs from (Or.inr ⟨fun q => by unfold gd_ok at *; omega, by decide, rfl, rfl, rfl⟩)), by rw [ht]; exact hP, va_K.moved hW.alike hK, hD⟩, hS.F ht⟩) hS.2.2 d_Mod_grid_26
  · refine lv_iload_n hx hb d_Mod_grid_15 rfl (lv_at hl 2 rfl) ?_
    refine lv_iconst (v := 1) hx hb d_Mod_grid_16 (by decide) ?_
    refine lv_bipush (v := 8) hx hb d_Mod_grid_17 (by decide) ?_
    have hPc := hP.sub (ws' := []) [] rfl
    have hDc := hD.sub (ws' := []) [] (by decide) rfl
    have hFc := va_free (wc := []) hD hS hA [] rfl
    refine va_calli (va_runS (As := [.int p2, .int 1, .int 8]) (rest := []) ⟨hx, hb, hml, hown, hts⟩ (k_Mod_within l dC dI cI cZ H.size p2 1 8) (cwS 3 hts g_Mod_grid_Mod_within rfl rfl rfl (by decide +kernel) ⟨Nat.le_of_ble_eq_true rfl, Nat.le_of_ble_eq_true rfl⟩) ⟨fun a U g mk q => by obtain ⟨q0, q1, qP, qK, qD⟩ := q; exact ⟨q0, q1, qP, va_K.moved (u := U) (U := U.calling g mk a) (Vm.Alike.refl U.vm) qK, qD⟩, fun U hU hW => ⟨rfl, by rw [hU], by rw [hU]; exact hPc, va_K.moved hW.alike hK, hDc.weaken (fun _ _ _ _ => trivial)⟩⟩ rfl rfl hl.1 rfl (lv_room (Nat.le_of_ble_eq_true rfl)) d_Mod_grid_19 ⟨Nat.le_of_ble_eq_true rfl, Nat.le_of_ble_eq_true rfl⟩) hS (fun q _ h => hFc q h) hFc (fun r19 u t H1 locs ht hvm hw hB hz1 hk1 hS => ?_)
    have w19 : (r19.toInt = 1 ∧ 1 ≤ p2.toInt ∧ p2.toInt ≤ 8) ∨ (r19.toInt = 0 ∧ (p2.toInt < 1 ∨ 8 < p2.toInt)) := hw
    obtain ⟨hP1, hK1, hD1⟩ := hB
    rw [ht] at hP1
    obtain ⟨hP, hD⟩ := va_join (wr := [(oM, .inr (5, [.int 0, .ref aTx, .int siz, .ref aBg, .ref aEn, .ref aLe, .ref aMa, .ref aFi, .int lnm, .int rsm, .ref aHe, .int bxs, .int wdt, .int hgh, .ref aCa, .ref aTo, .int byn, .ref aTu, .int pgm, .int tpm, .int stn, .int lnx, .int lny])), (aCa, .inl (cI, 64, .inl cgs))]) (w1 := []) hP hD [] [0, 1] rfl rfl (by decide) (by decide) hk1 hFc hP1 hD1
    generalize H1 = H at hP hS ⊢
    have hP : va_P (dC, dI) classes [(oM, .inr (5, [.int 0, .ref aTx, .int siz, .ref aBg, .ref aEn, .ref aLe, .ref aMa, .ref aFi, .int lnm, .int rsm, .ref aHe, .int bxs, .int wdt, .int hgh, .ref aCa, .ref aTo, .int byn, .ref aTu, .int pgm, .int tpm, .int stn, .int lnx, .int lny])), (aCa, .inl (cI, 64, .inl cgs))] H := hP
    have hD : va_D A [(oM, .inr (5, [.int 0, .ref aTx, .int siz, .ref aBg, .ref aEn, .ref aLe, .ref aMa, .ref aFi, .int lnm, .int rsm, .ref aHe, .int bxs, .int wdt, .int hgh, .ref aCa, .ref aTo, .int byn, .ref aTu, .int pgm, .int tpm, .int stn, .int lnx, .int lny])), (aCa, .inl (cI, 64, .inl cgs))] := hD
    refine xi_if_ne (tgt := 27) hx hb (rfl) d_Mod_grid_22 (by decide) (fun c22 => ?_) (fun c22 => ?_)
    · refine lv_aload_n hx hb d_Mod_grid_27 rfl (lv_at hl 0 rfl) ?_
      refine lv_iload_n hx hb d_Mod_grid_28 rfl (lv_at hl 1 rfl) ?_
      refine va_put (D := (dC, dI)) (ci := 5) (v := .int p1) (ty := .int) (C := R_Mod) (T := F_Mod) (N := 23) hx hb hts hw_Mod t_Mod t_Mod_ok n_Mod hown hK hP hD hS 0 rfl rfl 12 (by decide) (hts (.fieldLink R_Mod 31 "PageFormsModel" "width" "I") (by decide +kernel)) (fun _ h9 => h9) rfl (by decide +kernel) rfl rfl (Nat.le_of_ble_eq_true rfl) d_Mod_grid_29 (fun H locs hP hD hS => ?_)
      have hP : va_P (dC, dI) classes [(oM, .inr (5, [.int 0, .ref aTx, .int siz, .ref aBg, .ref aEn, .ref aLe, .ref aMa, .ref aFi, .int lnm, .int rsm, .ref aHe, .int bxs, .int p1, .int hgh, .ref aCa, .ref aTo, .int byn, .ref aTu, .int pgm, .int tpm, .int stn, .int lnx, .int lny])), (aCa, .inl (cI, 64, .inl cgs))] H := hP
      have hD : va_D A [(oM, .inr (5, [.int 0, .ref aTx, .int siz, .ref aBg, .ref aEn, .ref aLe, .ref aMa, .ref aFi, .int lnm, .int rsm, .ref aHe, .int bxs, .int p1, .int hgh, .ref aCa, .ref aTo, .int byn, .ref aTu, .int pgm, .int tpm, .int stn, .int lnx, .int lny])), (aCa, .inl (cI, 64, .inl cgs))] := hD
      refine lv_aload_n hx hb d_Mod_grid_32 rfl (lv_at hl 0 rfl) ?_
      refine lv_iload_n hx hb d_Mod_grid_33 rfl (lv_at hl 2 rfl) ?_
      refine va_put (D := (dC, dI)) (ci := 5) (v := .int p2) (ty := .int) (C := R_Mod) (T := F_Mod) (N := 23) hx hb hts hw_Mod t_Mod t_Mod_ok n_Mod hown hK hP hD hS 0 rfl rfl 13 (by decide) (hts (.fieldLink R_Mod 35 "PageFormsModel" "high" "I") (by decide +kernel)) (fun _ h9 => h9) rfl (by decide +kernel) rfl rfl (Nat.le_of_ble_eq_true rfl) d_Mod_grid_34 (fun H locs hP hD hS => ?_)
      have hP : va_P (dC, dI) classes [(oM, .inr (5, [.int 0, .ref aTx, .int siz, .ref aBg, .ref aEn, .ref aLe, .ref aMa, .ref aFi, .int lnm, .int rsm, .ref aHe, .int bxs, .int p1, .int p2, .ref aCa, .ref aTo, .int byn, .ref aTu, .int pgm, .int tpm, .int stn, .int lnx, .int lny])), (aCa, .inl (cI, 64, .inl cgs))] H := hP
      have hD : va_D A [(oM, .inr (5, [.int 0, .ref aTx, .int siz, .ref aBg, .ref aEn, .ref aLe, .ref aMa, .ref aFi, .int lnm, .int rsm, .ref aHe, .int bxs, .int p1, .int p2, .ref aCa, .ref aTo, .int byn, .ref aTu, .int pgm, .int tpm, .int stn, .int lnx, .int lny])), (aCa, .inl (cI, 64, .inl cgs))] := hD
      have hv1 : gd_ok p1.toInt ∧ gd_ok p2.toInt := by unfold gd_ok at *; omega
      refine lv_iconst (v := 0) hx hb d_Mod_grid_37 (by decide) ?_
      refine lv_istore_n (lv' := [(3, .int 0), (0, .ref oM), (1, .int p1), (2, .int p2)]) hx hb d_Mod_grid_38 rfl hl (by decide) rfl (fun ls hl => ?_)
      exact loop39 65 0 0 cgs (by omega) hv1 (by omega) (by decide) (fun j hj => by omega) _ _ hP hD hS ls (lv_sub hl [1, 2, 3, 0] rfl)
    · refine lv_iconst (v := 0) hx hb d_Mod_grid_25 (by decide) ?_
      exact W.zret (v := 0) hx hb hr rfl (fun t ht hW => ⟨⟨0, (0, wdt, hgh, cgs), rfl, (show gd_set wdt hgh cgs p1 p2 (0 : Int32) wdt hgh cgs from (Or.inr ⟨fun q => by unfold gd_ok at *; omega, by decide, rfl, rfl, rfl⟩)), by rw [ht]; exact hP, va_K.moved hW.alike hK, hD⟩, hS.F ht⟩) hS.2.2 d_Mod_grid_26

set_option maxHeartbeats 4000000 in
set_option maxRecDepth 100000 in
theorem k_Mod_cage (l : Launch) (dC : Nat → ClassId) (dI : Nat → Nat → Nat) (cI cZ : ClassId) (oM : Nat) (aCa : Nat) (thr : Int32) (aTx : Nat) (siz : Int32) (aBg : Nat) (aEn : Nat) (aLe : Nat) (aMa : Nat) (aFi : Nat) (lnm : Int32) (rsm : Int32) (aHe : Nat) (bxs : Int32) (wdt : Int32) (hgh : Int32) (aTo : Nat) (byn : Int32) (aTu : Nat) (pgm : Int32) (tpm : Int32) (stn : Int32) (lnx : Int32) (lny : Int32) (cgs : Nat → Int32) (sz : Nat) (p1 : Int32) (p2 : Int32) (wN : Nat) (hN : Nat) (ew : wdt.toInt = (wN : Int)) (eh : hgh.toInt = (hN : Int)) (hw1 : 1 ≤ wN ∧ wN ≤ 8) (hh1 : 1 ≤ hN ∧ hN ≤ 8) : Met l y_Mod_cage w_Mod_cage ({ frames := 1, cells := 0, slots := 0, locals := 22 }) (va_Pc [.ref oM, .int p1, .int p2] (fun U => U.heap.size = sz ∧ va_P (dC, dI) classes [(oM, .inr (5, [.int thr, .ref aTx, .int siz, .ref aBg, .ref aEn, .ref aLe, .ref aMa, .ref aFi, .int lnm, .int rsm, .ref aHe, .int bxs, .int wdt, .int hgh, .ref aCa, .ref aTo, .int byn, .ref aTu, .int pgm, .int tpm, .int stn, .int lnx, .int lny])), (aCa, .inl (cI, 64, .inl cgs))] U.heap ∧ va_K (dC, dI) classes [(cI, .int), (cZ, .boolean)] U ∧ va_D (fun _ => True) [(oM, .inr (5, [.int thr, .ref aTx, .int siz, .ref aBg, .ref aEn, .ref aLe, .ref aMa, .ref aFi, .int lnm, .int rsm, .ref aHe, .int bxs, .int wdt, .int hgh, .ref aCa, .ref aTo, .int byn, .ref aTu, .int pgm, .int tpm, .int stn, .int lnx, .int lny])), (aCa, .inl (cI, 64, .inl cgs))])) (va_Qi (fun (r : Int32) (u : Int32 × (Nat → Int32)) => gd_mark wN hN cgs p1 p2 r u.2) (fun (u : Int32 × (Nat → Int32)) (t : State) => va_P (dC, dI) classes [(oM, .inr (5, [.int u.1, .ref aTx, .int siz, .ref aBg, .ref aEn, .ref aLe, .ref aMa, .ref aFi, .int lnm, .int rsm, .ref aHe, .int bxs, .int wdt, .int hgh, .ref aCa, .ref aTo, .int byn, .ref aTu, .int pgm, .int tpm, .int stn, .int lnx, .int lny])), (aCa, .inl (cI, 64, .inl u.2))] t.heap ∧ va_K (dC, dI) classes [(cI, .int), (cZ, .boolean)] t ∧ va_D (va_A [(oM, .inr (5, [.int thr, .ref aTx, .int siz, .ref aBg, .ref aEn, .ref aLe, .ref aMa, .ref aFi, .int lnm, .int rsm, .ref aHe, .int bxs, .int wdt, .int hgh, .ref aCa, .ref aTo, .int byn, .ref aTu, .int pgm, .int tpm, .int stn, .int lnx, .int lny])), (aCa, .inl (cI, 64, .inl cgs))] sz) [(oM, .inr (5, [.int u.1, .ref aTx, .int siz, .ref aBg, .ref aEn, .ref aLe, .ref aMa, .ref aFi, .int lnm, .int rsm, .ref aHe, .int bxs, .int wdt, .int hgh, .ref aCa, .ref aTo, .int byn, .ref aTu, .int pgm, .int tpm, .int stn, .int lnx, .int lny])), (aCa, .inl (cI, 64, .inl u.2))]) (va_A [(oM, .inr (5, [.int thr, .ref aTx, .int siz, .ref aBg, .ref aEn, .ref aLe, .ref aMa, .ref aFi, .int lnm, .int rsm, .ref aHe, .int bxs, .int wdt, .int hgh, .ref aCa, .ref aTo, .int byn, .ref aTu, .int pgm, .int tpm, .int stn, .int lnx, .int lny])), (aCa, .inl (cI, 64, .inl cgs))] sz)) 0 0 (va_A [(oM, .inr (5, [.int thr, .ref aTx, .int siz, .ref aBg, .ref aEn, .ref aLe, .ref aMa, .ref aFi, .int lnm, .int rsm, .ref aHe, .int bxs, .int wdt, .int hgh, .ref aCa, .ref aTo, .int byn, .ref aTu, .int pgm, .int tpm, .int stn, .int lnx, .int lny])), (aCa, .inl (cI, 64, .inl cgs))] sz) := by
  refine Met.ofW (cc := b_Mod_cage) (maxL := 3) (ret := (some .boolean)) (by decide) rfl ?_
  intro p e s m args below meth c s₁ B hml hv
  obtain ⟨rfl, hsz, hP, hK, hD0⟩ := hv
  have hx := B.exec
  have hb := B.bytes
  have hr := B.returns
  have hts := atoms_spec (ws := w_Mod_cage) B.pre
  have hown : s.vm.findClass R_Mod = some m.cls := findClass_of_methodNamed B.named
  have hlocks := B.notSynchronized
  have hw_Mod : ∀ w ∈ w_Mod, w ∈ w_Mod_cage := by decide +kernel
  subst hsz
  have hD := hD0.self (sz := s.heap.size)
  generalize hAe : va_A [(oM, .inr (5, [.int thr, .ref aTx, .int siz, .ref aBg, .ref aEn, .ref aLe, .ref aMa, .ref aFi, .int lnm, .int rsm, .ref aHe, .int bxs, .int wdt, .int hgh, .ref aCa, .ref aTo, .int byn, .ref aTu, .int pgm, .int tpm, .int stn, .int lnx, .int lny])), (aCa, .inl (cI, 64, .inl cgs))] s.heap.size = A at hD ⊢
  have hA : ∀ q : Nat, s.heap.size ≤ q → A q := fun q h => by rw [← hAe]; exact Or.inr h
  have hS : va_S A s.heap s.heap [] := va_S.rf
  have hP : va_P (dC, dI) classes [(oM, .inr (5, [.int thr, .ref aTx, .int siz, .ref aBg, .ref aEn, .ref aLe, .ref aMa, .ref aFi, .int lnm, .int rsm, .ref aHe, .int bxs, .int wdt, .int hgh, .ref aCa, .ref aTo, .int byn, .ref aTu, .int pgm, .int tpm, .int stn, .int lnx, .int lny])), (aCa, .inl (cI, 64, .inl cgs))] s.heap := hP
  have hl := lv_entry ([.ref oM, .int p1, .int p2]) (n := 3) (Nat.le_of_ble_eq_true rfl)
  rw [lg_entry_eq]
  generalize (lg_sl ([.ref oM, .int p1, .int p2]) ++ List.replicate (3 - (lg_sl ([.ref oM, .int p1, .int p2])).length) Slot.unset).toArray = ls at hl ⊢
  have hl : lv_has ls 3 [(0, .ref oM), (1, .int p1), (2, .int p2)] := hl
  have h64 := gd_64 hw1.2 hh1.2
  refine lv_aload_n hx hb d_Mod_cage_0 rfl (lv_at hl 0 rfl) ?_
  refine lv_iconst (v := 0) hx hb d_Mod_cage_1 (by decide) ?_
  refine va_put (D := (dC, dI)) (ci := 5) (v := .int 0) (ty := .int) (C := R_Mod) (T := F_Mod) (N := 23) hx hb hts hw_Mod t_Mod t_Mod_ok n_Mod hown hK hP hD hS 0 rfl rfl 0 (by decide) (hts (.fieldLink R_Mod 48 "PageFormsModel" "thrown" "I") (by decide +kernel)) (fun _ h9 => h9) rfl (by decide +kernel) rfl rfl (Nat.le_of_ble_eq_true rfl) d_Mod_cage_2 (fun H locs hP hD hS => ?_)
  have hP : va_P (dC, dI) classes [(oM, .inr (5, [.int 0, .ref aTx, .int siz, .ref aBg, .ref aEn, .ref aLe, .ref aMa, .ref aFi, .int lnm, .int rsm, .ref aHe, .int bxs, .int wdt, .int hgh, .ref aCa, .ref aTo, .int byn, .ref aTu, .int pgm, .int tpm, .int stn, .int lnx, .int lny])), (aCa, .inl (cI, 64, .inl cgs))] H := hP
  have hD : va_D A [(oM, .inr (5, [.int 0, .ref aTx, .int siz, .ref aBg, .ref aEn, .ref aLe, .ref aMa, .ref aFi, .int lnm, .int rsm, .ref aHe, .int bxs, .int wdt, .int hgh, .ref aCa, .ref aTo, .int byn, .ref aTu, .int pgm, .int tpm, .int stn, .int lnx, .int lny])), (aCa, .inl (cI, 64, .inl cgs))] := hD
  refine lv_iload_n hx hb d_Mod_cage_5 rfl (lv_at hl 1 rfl) ?_
  refine lv_iconst (v := 0) hx hb d_Mod_cage_6 (by decide) ?_
  refine lv_aload_n hx hb d_Mod_cage_7 rfl (lv_at hl 0 rfl) ?_
  refine va_get (D := (dC, dI)) (ci := 5) (v := .int wdt) (C := R_Mod) (T := F_Mod) (N := 23) hx hb hts hw_Mod hown hK hP 0 rfl rfl 12 (by decide) (hts (.fieldLink R_Mod 31 "PageFormsModel" "width" "I") (by decide +kernel)) (fun _ h9 => h9) rfl d_Mod_cage_8 ?_
  refine lv_aload_n hx hb d_Mod_cage_11 rfl (lv_at hl 0 rfl) ?_
  refine va_get (D := (dC, dI)) (ci := 5) (v := .int hgh) (C := R_Mod) (T := F_Mod) (N := 23) hx hb hts hw_Mod hown hK hP 0 rfl rfl 13 (by decide) (hts (.fieldLink R_Mod 35 "PageFormsModel" "high" "I") (by decide +kernel)) (fun _ h9 => h9) rfl d_Mod_cage_12 ?_
  refine lv_imul hx hb d_Mod_cage_15 ?_
  have a15 : (wdt * hgh).toInt = ((wN * hN : Nat) : Int) := xi_mulN ew eh (by omega)
  refine lv_iconst (v := 1) hx hb d_Mod_cage_16 (by decide) ?_
  refine lv_isub hx hb d_Mod_cage_17 ?_
  have a17 : ((wdt * hgh) - 1).toInt = (((wN * hN : Nat) : Int) - 1) := xi_sub a15 (show (1 : Int32).toInt = 1 by decide) (by omega) (by omega)
  have hPc := hP.sub (ws' := []) [] rfl
  have hDc := hD.sub (ws' := []) [] (by decide) rfl
  have hFc := va_free (wc := []) hD hS hA [] rfl
  refine va_calli (va_runS (As := [.int p1, .int 0, .int ((wdt * hgh) - 1)]) (rest := []) ⟨hx, hb, hml, hown, hts⟩ (k_Mod_within l dC dI cI cZ H.size p1 0 ((wdt * hgh) - 1)) (cwS 3 hts g_Mod_cage_Mod_within rfl rfl rfl (by decide +kernel) ⟨Nat.le_of_ble_eq_true rfl, Nat.le_of_ble_eq_true rfl⟩) ⟨fun a U g mk q => by obtain ⟨q0, q1, qP, qK, qD⟩ := q; exact ⟨q0, q1, qP, va_K.moved (u := U) (U := U.calling g mk a) (Vm.Alike.refl U.vm) qK, qD⟩, fun U hU hW => ⟨rfl, by rw [hU], by rw [hU]; exact hPc, va_K.moved hW.alike hK, hDc.weaken (fun _ _ _ _ => trivial)⟩⟩ rfl rfl hl.1 rfl (lv_room (Nat.le_of_ble_eq_true rfl)) d_Mod_cage_18 ⟨Nat.le_of_ble_eq_true rfl, Nat.le_of_ble_eq_true rfl⟩) hS (fun q _ h => hFc q h) hFc (fun r18 u t H1 locs ht hvm hw hB hz1 hk1 hS => ?_)
  have w18 : (r18.toInt = 1 ∧ 0 ≤ p1.toInt ∧ p1.toInt ≤ ((wdt * hgh) - 1).toInt) ∨ (r18.toInt = 0 ∧ (p1.toInt < 0 ∨ ((wdt * hgh) - 1).toInt < p1.toInt)) := hw
  obtain ⟨hP1, hK1, hD1⟩ := hB
  rw [ht] at hP1
  obtain ⟨hP, hD⟩ := va_join (wr := [(oM, .inr (5, [.int 0, .ref aTx, .int siz, .ref aBg, .ref aEn, .ref aLe, .ref aMa, .ref aFi, .int lnm, .int rsm, .ref aHe, .int bxs, .int wdt, .int hgh, .ref aCa, .ref aTo, .int byn, .ref aTu, .int pgm, .int tpm, .int stn, .int lnx, .int lny])), (aCa, .inl (cI, 64, .inl cgs))]) (w1 := []) hP hD [] [0, 1] rfl rfl (by decide) (by decide) hk1 hFc hP1 hD1
  generalize H1 = H at hP hS ⊢
  have hP : va_P (dC, dI) classes [(oM, .inr (5, [.int 0, .ref aTx, .int siz, .ref aBg, .ref aEn, .ref aLe, .ref aMa, .ref aFi, .int lnm, .int rsm, .ref aHe, .int bxs, .int wdt, .int hgh, .ref aCa, .ref aTo, .int byn, .ref aTu, .int pgm, .int tpm, .int stn, .int lnx, .int lny])), (aCa, .inl (cI, 64, .inl cgs))] H := hP
  have hD : va_D A [(oM, .inr (5, [.int 0, .ref aTx, .int siz, .ref aBg, .ref aEn, .ref aLe, .ref aMa, .ref aFi, .int lnm, .int rsm, .ref aHe, .int bxs, .int wdt, .int hgh, .ref aCa, .ref aTo, .int byn, .ref aTu, .int pgm, .int tpm, .int stn, .int lnx, .int lny])), (aCa, .inl (cI, 64, .inl cgs))] := hD
  rw [a17] at w18
  refine xi_if_eq (tgt := 34) hx hb (rfl) d_Mod_cage_21 (by decide) (fun c21 => ?_) (fun c21 => ?_)
  · refine lv_iconst (v := 0) hx hb d_Mod_cage_34 (by decide) ?_
    exact W.zret (v := 0) hx hb hr rfl (fun t ht hW => ⟨⟨0, (0, cgs), rfl, (show gd_mark wN hN cgs p1 p2 (0 : Int32) cgs from (Or.inr ⟨by omega, by decide, rfl⟩)), by rw [ht]; exact hP, va_K.moved hW.alike hK, hD⟩, hS.F ht⟩) hS.2.2 d_Mod_cage_35
  · refine lv_iload_n hx hb d_Mod_cage_24 rfl (lv_at hl 2 rfl) ?_
    refine lv_iconst (v := 0) hx hb d_Mod_cage_25 (by decide) ?_
    refine lv_bipush (v := 9) hx hb d_Mod_cage_26 (by decide) ?_
    have hPc := hP.sub (ws' := []) [] rfl
    have hDc := hD.sub (ws' := []) [] (by decide) rfl
    have hFc := va_free (wc := []) hD hS hA [] rfl
    refine va_calli (va_runS (As := [.int p2, .int 0, .int 9]) (rest := []) ⟨hx, hb, hml, hown, hts⟩ (k_Mod_within l dC dI cI cZ H.size p2 0 9) (cwS 3 hts g_Mod_cage_Mod_within rfl rfl rfl (by decide +kernel) ⟨Nat.le_of_ble_eq_true rfl, Nat.le_of_ble_eq_true rfl⟩) ⟨fun a U g mk q => by obtain ⟨q0, q1, qP, qK, qD⟩ := q; exact ⟨q0, q1, qP, va_K.moved (u := U) (U := U.calling g mk a) (Vm.Alike.refl U.vm) qK, qD⟩, fun U hU hW => ⟨rfl, by rw [hU], by rw [hU]; exact hPc, va_K.moved hW.alike hK, hDc.weaken (fun _ _ _ _ => trivial)⟩⟩ rfl rfl hl.1 rfl (lv_room (Nat.le_of_ble_eq_true rfl)) d_Mod_cage_28 ⟨Nat.le_of_ble_eq_true rfl, Nat.le_of_ble_eq_true rfl⟩) hS (fun q _ h => hFc q h) hFc (fun r28 u t H1 locs ht hvm hw hB hz1 hk1 hS => ?_)
    have w28 : (r28.toInt = 1 ∧ 0 ≤ p2.toInt ∧ p2.toInt ≤ 9) ∨ (r28.toInt = 0 ∧ (p2.toInt < 0 ∨ 9 < p2.toInt)) := hw
    obtain ⟨hP1, hK1, hD1⟩ := hB
    rw [ht] at hP1
    obtain ⟨hP, hD⟩ := va_join (wr := [(oM, .inr (5, [.int 0, .ref aTx, .int siz, .ref aBg, .ref aEn, .ref aLe, .ref aMa, .ref aFi, .int lnm, .int rsm, .ref aHe, .int bxs, .int wdt, .int hgh, .ref aCa, .ref aTo, .int byn, .ref aTu, .int pgm, .int tpm, .int stn, .int lnx, .int lny])), (aCa, .inl (cI, 64, .inl cgs))]) (w1 := []) hP hD [] [0, 1] rfl rfl (by decide) (by decide) hk1 hFc hP1 hD1
    generalize H1 = H at hP hS ⊢
    have hP : va_P (dC, dI) classes [(oM, .inr (5, [.int 0, .ref aTx, .int siz, .ref aBg, .ref aEn, .ref aLe, .ref aMa, .ref aFi, .int lnm, .int rsm, .ref aHe, .int bxs, .int wdt, .int hgh, .ref aCa, .ref aTo, .int byn, .ref aTu, .int pgm, .int tpm, .int stn, .int lnx, .int lny])), (aCa, .inl (cI, 64, .inl cgs))] H := hP
    have hD : va_D A [(oM, .inr (5, [.int 0, .ref aTx, .int siz, .ref aBg, .ref aEn, .ref aLe, .ref aMa, .ref aFi, .int lnm, .int rsm, .ref aHe, .int bxs, .int wdt, .int hgh, .ref aCa, .ref aTo, .int byn, .ref aTu, .int pgm, .int tpm, .int stn, .int lnx, .int lny])), (aCa, .inl (cI, 64, .inl cgs))] := hD
    refine xi_if_ne (tgt := 36) hx hb (rfl) d_Mod_cage_31 (by decide) (fun c31 => ?_) (fun c31 => ?_)
    · obtain ⟨y, hy⟩ : ∃ y : Nat, p1.toInt = (y : Int) := ⟨p1.toInt.toNat, by omega⟩
      refine lv_aload_n hx hb d_Mod_cage_36 rfl (lv_at hl 0 rfl) ?_
      refine va_get (D := (dC, dI)) (ci := 5) (v := .ref aCa) (C := R_Mod) (T := F_Mod) (N := 23) hx hb hts hw_Mod hown hK hP 0 rfl rfl 14 (by decide) (hts (.fieldLink R_Mod 38 "PageFormsModel" "cages" "[I") (by decide +kernel)) (fun _ h9 => h9) rfl d_Mod_cage_37 ?_
      refine lv_iload_n hx hb d_Mod_cage_40 rfl (lv_at hl 1 rfl) ?_
      refine lv_iload_n hx hb d_Mod_cage_41 rfl (lv_at hl 2 rfl) ?_
      refine xa_iast hx hb hK hP hD hS 1 0 rfl rfl hy y (by omega) (by omega) d_Mod_cage_42 (fun H locs hP hD hS => ?_)
      have hP : va_P (dC, dI) classes [(oM, .inr (5, [.int 0, .ref aTx, .int siz, .ref aBg, .ref aEn, .ref aLe, .ref aMa, .ref aFi, .int lnm, .int rsm, .ref aHe, .int bxs, .int wdt, .int hgh, .ref aCa, .ref aTo, .int byn, .ref aTu, .int pgm, .int tpm, .int stn, .int lnx, .int lny])), (aCa, .inl (cI, 64, .inl (upd cgs y p2)))] H := hP
      have hD : va_D A [(oM, .inr (5, [.int 0, .ref aTx, .int siz, .ref aBg, .ref aEn, .ref aLe, .ref aMa, .ref aFi, .int lnm, .int rsm, .ref aHe, .int bxs, .int wdt, .int hgh, .ref aCa, .ref aTo, .int byn, .ref aTu, .int pgm, .int tpm, .int stn, .int lnx, .int lny])), (aCa, .inl (cI, 64, .inl (upd cgs y p2)))] := hD
      refine lv_iconst (v := 1) hx hb d_Mod_cage_43 (by decide) ?_
      exact W.zret (v := 1) hx hb hr rfl (fun t ht hW => ⟨⟨1, (0, (upd cgs y p2)), rfl, (show gd_mark wN hN cgs p1 p2 (1 : Int32) (upd cgs y p2) from (Or.inl ⟨by omega, by omega, by omega, by omega, by decide, by rw [hy]; rfl⟩)), by rw [ht]; exact hP, va_K.moved hW.alike hK, hD⟩, hS.F ht⟩) hS.2.2 d_Mod_cage_44
    · refine lv_iconst (v := 0) hx hb d_Mod_cage_34 (by decide) ?_
      exact W.zret (v := 0) hx hb hr rfl (fun t ht hW => ⟨⟨0, (0, cgs), rfl, (show gd_mark wN hN cgs p1 p2 (0 : Int32) cgs from (Or.inr ⟨by omega, by decide, rfl⟩)), by rw [ht]; exact hP, va_K.moved hW.alike hK, hD⟩, hS.F ht⟩) hS.2.2 d_Mod_cage_35

set_option maxHeartbeats 4000000 in
set_option maxRecDepth 100000 in
theorem k_Mod_isThick_s (l : Launch) (dC : Nat → ClassId) (dI : Nat → Nat → Nat) (cI cZ : ClassId) (oM : Nat) (aCa : Nat) (thr : Int32) (aTx : Nat) (siz : Int32) (aBg : Nat) (aEn : Nat) (aLe : Nat) (aMa : Nat) (aFi : Nat) (lnm : Int32) (rsm : Int32) (aHe : Nat) (bxs : Int32) (wdt : Int32) (hgh : Int32) (aTo : Nat) (byn : Int32) (aTu : Nat) (pgm : Int32) (tpm : Int32) (stn : Int32) (lnx : Int32) (lny : Int32) (cgs : Nat → Int32) (sz : Nat) (p2 : Int32) (p3 : Int32) (wN : Nat) (hN : Nat) (q : Nat) (i : Nat) (ew : wdt.toInt = (wN : Int)) (eh : hgh.toInt = (hN : Int)) (hw1 : 1 ≤ wN ∧ wN ≤ 8) (hh1 : 1 ≤ hN ∧ hN ≤ 8) (eq : p2.toInt = (q : Int)) (ei : p3.toInt = (i : Int)) (hi : i < hN) (hq : q ≤ wN) : Met l y_Mod_isThick w_Mod_isThick ({ frames := 0, cells := 0, slots := 0, locals := 0 }) (va_Pc [.ref oM, .int 1, .int p2, .int p3] (fun U => U.heap.size = sz ∧ va_P (dC, dI) classes [(oM, .inr (5, [.int thr, .ref aTx, .int siz, .ref aBg, .ref aEn, .ref aLe, .ref aMa, .ref aFi, .int lnm, .int rsm, .ref aHe, .int bxs, .int wdt, .int hgh, .ref aCa, .ref aTo, .int byn, .ref aTu, .int pgm, .int tpm, .int stn, .int lnx, .int lny])), (aCa, .inl (cI, 64, .inl cgs))] U.heap ∧ va_K (dC, dI) classes [(cI, .int), (cZ, .boolean)] U ∧ va_D (fun _ => True) [(oM, .inr (5, [.int thr, .ref aTx, .int siz, .ref aBg, .ref aEn, .ref aLe, .ref aMa, .ref aFi, .int lnm, .int rsm, .ref aHe, .int bxs, .int wdt, .int hgh, .ref aCa, .ref aTo, .int byn, .ref aTu, .int pgm, .int tpm, .int stn, .int lnx, .int lny])), (aCa, .inl (cI, 64, .inl cgs))])) (va_Qi (fun (r : Int32) (u : Unit) => (r.toInt = 1 ∧ gd_s wN hN cgs q i = true) ∨ (r.toInt = 0 ∧ gd_s wN hN cgs q i = false)) (fun (u : Unit) (t : State) => va_P (dC, dI) classes [(oM, .inr (5, [.int thr, .ref aTx, .int siz, .ref aBg, .ref aEn, .ref aLe, .ref aMa, .ref aFi, .int lnm, .int rsm, .ref aHe, .int bxs, .int wdt, .int hgh, .ref aCa, .ref aTo, .int byn, .ref aTu, .int pgm, .int tpm, .int stn, .int lnx, .int lny])), (aCa, .inl (cI, 64, .inl cgs))] t.heap ∧ va_K (dC, dI) classes [(cI, .int), (cZ, .boolean)] t ∧ va_D (va_A [(oM, .inr (5, [.int thr, .ref aTx, .int siz, .ref aBg, .ref aEn, .ref aLe, .ref aMa, .ref aFi, .int lnm, .int rsm, .ref aHe, .int bxs, .int wdt, .int hgh, .ref aCa, .ref aTo, .int byn, .ref aTu, .int pgm, .int tpm, .int stn, .int lnx, .int lny])), (aCa, .inl (cI, 64, .inl cgs))] sz) [(oM, .inr (5, [.int thr, .ref aTx, .int siz, .ref aBg, .ref aEn, .ref aLe, .ref aMa, .ref aFi, .int lnm, .int rsm, .ref aHe, .int bxs, .int wdt, .int hgh, .ref aCa, .ref aTo, .int byn, .ref aTu, .int pgm, .int tpm, .int stn, .int lnx, .int lny])), (aCa, .inl (cI, 64, .inl cgs))]) (va_A [(oM, .inr (5, [.int thr, .ref aTx, .int siz, .ref aBg, .ref aEn, .ref aLe, .ref aMa, .ref aFi, .int lnm, .int rsm, .ref aHe, .int bxs, .int wdt, .int hgh, .ref aCa, .ref aTo, .int byn, .ref aTu, .int pgm, .int tpm, .int stn, .int lnx, .int lny])), (aCa, .inl (cI, 64, .inl cgs))] sz)) 0 0 (va_A [(oM, .inr (5, [.int thr, .ref aTx, .int siz, .ref aBg, .ref aEn, .ref aLe, .ref aMa, .ref aFi, .int lnm, .int rsm, .ref aHe, .int bxs, .int wdt, .int hgh, .ref aCa, .ref aTo, .int byn, .ref aTu, .int pgm, .int tpm, .int stn, .int lnx, .int lny])), (aCa, .inl (cI, 64, .inl cgs))] sz) := by
  refine Met.ofW (cc := b_Mod_isThick) (maxL := 4) (ret := (some .boolean)) (by decide) rfl ?_
  intro p e s m args below meth c s₁ B hml hv
  obtain ⟨rfl, hsz, hP, hK, hD0⟩ := hv
  have hx := B.exec
  have hb := B.bytes
  have hr := B.returns
  have hts := atoms_spec (ws := w_Mod_isThick) B.pre
  have hown : s.vm.findClass R_Mod = some m.cls := findClass_of_methodNamed B.named
  have hlocks := B.notSynchronized
  have hw_Mod : ∀ w ∈ w_Mod, w ∈ w_Mod_isThick := by decide +kernel
  subst hsz
  have hD := hD0.self (sz := s.heap.size)
  generalize hAe : va_A [(oM, .inr (5, [.int thr, .ref aTx, .int siz, .ref aBg, .ref aEn, .ref aLe, .ref aMa, .ref aFi, .int lnm, .int rsm, .ref aHe, .int bxs, .int wdt, .int hgh, .ref aCa, .ref aTo, .int byn, .ref aTu, .int pgm, .int tpm, .int stn, .int lnx, .int lny])), (aCa, .inl (cI, 64, .inl cgs))] s.heap.size = A at hD ⊢
  have hA : ∀ q : Nat, s.heap.size ≤ q → A q := fun q h => by rw [← hAe]; exact Or.inr h
  have hS : va_S A s.heap s.heap [] := va_S.rf
  have hP : va_P (dC, dI) classes [(oM, .inr (5, [.int thr, .ref aTx, .int siz, .ref aBg, .ref aEn, .ref aLe, .ref aMa, .ref aFi, .int lnm, .int rsm, .ref aHe, .int bxs, .int wdt, .int hgh, .ref aCa, .ref aTo, .int byn, .ref aTu, .int pgm, .int tpm, .int stn, .int lnx, .int lny])), (aCa, .inl (cI, 64, .inl cgs))] s.heap := hP
  have hl := lv_entry ([.ref oM, .int 1, .int p2, .int p3]) (n := 4) (Nat.le_of_ble_eq_true rfl)
  rw [lg_entry_eq]
  generalize (lg_sl ([.ref oM, .int 1, .int p2, .int p3]) ++ List.replicate (4 - (lg_sl ([.ref oM, .int 1, .int p2, .int p3])).length) Slot.unset).toArray = ls at hl ⊢
  have hl : lv_has ls 4 [(0, .ref oM), (1, .int 1), (2, .int p2), (3, .int p3)] := hl
  refine lv_iload_n hx hb d_Mod_isThick_0 rfl (lv_at hl 1 rfl) ?_
  refine xi_if_eq (tgt := 53) hx hb (show (1 : Int32).toInt = 1 by decide) d_Mod_isThick_1 (by decide) (fun c1 => absurd c1 (by decide)) (fun c1 => ?_)
  refine lv_iload_n hx hb d_Mod_isThick_4 rfl (lv_at hl 2 rfl) ?_
  refine xi_if_eq (tgt := 47) hx hb eq d_Mod_isThick_5 (by decide) (fun c5 => ?_) (fun c5 => ?_)
  · refine lv_iconst (v := 1) hx hb d_Mod_isThick_47 (by decide) ?_
    refine lv_goto (tgt := 52) hx hb d_Mod_isThick_48 (by decide) ?_
    exact W.zret (v := 1) hx hb hr rfl (fun t ht hW => ⟨⟨1, (), rfl, (show (1 = 1 ∧ gd_s wN hN cgs q i = true) ∨ (1 = 0 ∧ gd_s wN hN cgs q i = false) from (Or.inl ⟨by decide, decide_eq_true (by omega)⟩)), by rw [ht]; exact hP, va_K.moved hW.alike hK, hD⟩, hS.F ht⟩) hS.2.2 d_Mod_isThick_52
  · refine lv_iload_n hx hb d_Mod_isThick_8 rfl (lv_at hl 2 rfl) ?_
    refine lv_aload_n hx hb d_Mod_isThick_9 rfl (lv_at hl 0 rfl) ?_
    refine va_get (D := (dC, dI)) (ci := 5) (v := .int wdt) (C := R_Mod) (T := F_Mod) (N := 23) hx hb hts hw_Mod hown hK hP 0 rfl rfl 12 (by decide) (hts (.fieldLink R_Mod 31 "PageFormsModel" "width" "I") (by decide +kernel)) (fun _ h9 => h9) rfl d_Mod_isThick_10 ?_
    refine xi_icmp_eq (tgt := 47) hx hb eq ew d_Mod_isThick_13 (by decide) (fun c13 => ?_) (fun c13 => ?_)
    · refine lv_iconst (v := 1) hx hb d_Mod_isThick_47 (by decide) ?_
      refine lv_goto (tgt := 52) hx hb d_Mod_isThick_48 (by decide) ?_
      exact W.zret (v := 1) hx hb hr rfl (fun t ht hW => ⟨⟨1, (), rfl, (show (1 = 1 ∧ gd_s wN hN cgs q i = true) ∨ (1 = 0 ∧ gd_s wN hN cgs q i = false) from (Or.inl ⟨by decide, decide_eq_true (by omega)⟩)), by rw [ht]; exact hP, va_K.moved hW.alike hK, hD⟩, hS.F ht⟩) hS.2.2 d_Mod_isThick_52
    · have hin : (q + wN * i) < 64 := gd_in hw1.2 hh1.2 (by omega) hi
      refine lv_aload_n hx hb d_Mod_isThick_16 rfl (lv_at hl 0 rfl) ?_
      refine va_get (D := (dC, dI)) (ci := 5) (v := .ref aCa) (C := R_Mod) (T := F_Mod) (N := 23) hx hb hts hw_Mod hown hK hP 0 rfl rfl 14 (by decide) (hts (.fieldLink R_Mod 38 "PageFormsModel" "cages" "[I") (by decide +kernel)) (fun _ h9 => h9) rfl d_Mod_isThick_17 ?_
      refine lv_iload_n hx hb d_Mod_isThick_20 rfl (lv_at hl 2 rfl) ?_
      refine lv_iconst (v := 1) hx hb d_Mod_isThick_21 (by decide) ?_
      refine lv_isub hx hb d_Mod_isThick_22 ?_
      have a22 : (p2 - 1).toInt = ((q : Int) - 1) := xi_sub eq (show (1 : Int32).toInt = 1 by decide) (by omega) (by omega)
      refine lv_aload_n hx hb d_Mod_isThick_23 rfl (lv_at hl 0 rfl) ?_
      refine va_get (D := (dC, dI)) (ci := 5) (v := .int wdt) (C := R_Mod) (T := F_Mod) (N := 23) hx hb hts hw_Mod hown hK hP 0 rfl rfl 12 (by decide) (hts (.fieldLink R_Mod 31 "PageFormsModel" "width" "I") (by decide +kernel)) (fun _ h9 => h9) rfl d_Mod_isThick_24 ?_
      refine lv_iload_n hx hb d_Mod_isThick_27 rfl (lv_at hl 3 rfl) ?_
      refine lv_imul hx hb d_Mod_isThick_28 ?_
      have a28 : (wdt * p3).toInt = ((wN * i : Nat) : Int) := xi_mulN ew ei (by omega)
      refine lv_iadd hx hb d_Mod_isThick_29 ?_
      have a29 : ((p2 - 1) + (wdt * p3)).toInt = (((q : Int) - 1) + ((wN * i : Nat) : Int)) := xi_add a22 a28 (by omega) (by omega)
      refine xa_iald hx hb hK hP 1 0 rfl rfl a29 (q + wN * i - 1) (by omega) (by omega) d_Mod_isThick_30 ?_
      refine lv_aload_n hx hb d_Mod_isThick_31 rfl (lv_at hl 0 rfl) ?_
      refine va_get (D := (dC, dI)) (ci := 5) (v := .ref aCa) (C := R_Mod) (T := F_Mod) (N := 23) hx hb hts hw_Mod hown hK hP 0 rfl rfl 14 (by decide) (hts (.fieldLink R_Mod 38 "PageFormsModel" "cages" "[I") (by decide +kernel)) (fun _ h9 => h9) rfl d_Mod_isThick_32 ?_
      refine lv_iload_n hx hb d_Mod_isThick_35 rfl (lv_at hl 2 rfl) ?_
      refine lv_aload_n hx hb d_Mod_isThick_36 rfl (lv_at hl 0 rfl) ?_
      refine va_get (D := (dC, dI)) (ci := 5) (v := .int wdt) (C := R_Mod) (T := F_Mod) (N := 23) hx hb hts hw_Mod hown hK hP 0 rfl rfl 12 (by decide) (hts (.fieldLink R_Mod 31 "PageFormsModel" "width" "I") (by decide +kernel)) (fun _ h9 => h9) rfl d_Mod_isThick_37 ?_
      refine lv_iload_n hx hb d_Mod_isThick_40 rfl (lv_at hl 3 rfl) ?_
      refine lv_imul hx hb d_Mod_isThick_41 ?_
      refine lv_iadd hx hb d_Mod_isThick_42 ?_
      have a42 : (p2 + (wdt * p3)).toInt = ((q : Int) + ((wN * i : Nat) : Int)) := xi_add eq a28 (by omega) (by omega)
      refine xa_iald hx hb hK hP 1 0 rfl rfl a42 (q + wN * i) (by omega) (by omega) d_Mod_isThick_43 ?_
      refine xi_icmp_eq (tgt := 51) hx hb (rfl) (rfl) d_Mod_isThick_44 (by decide) (fun c44 => ?_) (fun c44 => ?_)
      · refine lv_iconst (v := 0) hx hb d_Mod_isThick_51 (by decide) ?_
        exact W.zret (v := 0) hx hb hr rfl (fun t ht hW => ⟨⟨0, (), rfl, (show (0 = 1 ∧ gd_s wN hN cgs q i = true) ∨ (0 = 0 ∧ gd_s wN hN cgs q i = false) from (Or.inr ⟨by decide, decide_eq_false (fun z => by rcases z with z | z | z; omega; omega; exact z (Int32.toInt_inj.mp c44).symm)⟩)), by rw [ht]; exact hP, va_K.moved hW.alike hK, hD⟩, hS.F ht⟩) hS.2.2 d_Mod_isThick_52
      · refine lv_iconst (v := 1) hx hb d_Mod_isThick_47 (by decide) ?_
        refine lv_goto (tgt := 52) hx hb d_Mod_isThick_48 (by decide) ?_
        exact W.zret (v := 1) hx hb hr rfl (fun t ht hW => ⟨⟨1, (), rfl, (show (1 = 1 ∧ gd_s wN hN cgs q i = true) ∨ (1 = 0 ∧ gd_s wN hN cgs q i = false) from (Or.inl ⟨by decide, decide_eq_true (Or.inr (Or.inr (fun z => c44 (by rw [z]))))⟩)), by rw [ht]; exact hP, va_K.moved hW.alike hK, hD⟩, hS.F ht⟩) hS.2.2 d_Mod_isThick_52

set_option maxHeartbeats 4000000 in
set_option maxRecDepth 100000 in
theorem k_Mod_isThick_a (l : Launch) (dC : Nat → ClassId) (dI : Nat → Nat → Nat) (cI cZ : ClassId) (oM : Nat) (aCa : Nat) (thr : Int32) (aTx : Nat) (siz : Int32) (aBg : Nat) (aEn : Nat) (aLe : Nat) (aMa : Nat) (aFi : Nat) (lnm : Int32) (rsm : Int32) (aHe : Nat) (bxs : Int32) (wdt : Int32) (hgh : Int32) (aTo : Nat) (byn : Int32) (aTu : Nat) (pgm : Int32) (tpm : Int32) (stn : Int32) (lnx : Int32) (lny : Int32) (cgs : Nat → Int32) (sz : Nat) (p2 : Int32) (p3 : Int32) (wN : Nat) (hN : Nat) (q : Nat) (i : Nat) (ew : wdt.toInt = (wN : Int)) (eh : hgh.toInt = (hN : Int)) (hw1 : 1 ≤ wN ∧ wN ≤ 8) (hh1 : 1 ≤ hN ∧ hN ≤ 8) (eq : p3.toInt = (q : Int)) (ei : p2.toInt = (i : Int)) (hi : i < wN) (hq : q ≤ hN) : Met l y_Mod_isThick w_Mod_isThick ({ frames := 0, cells := 0, slots := 0, locals := 0 }) (va_Pc [.ref oM, .int 0, .int p2, .int p3] (fun U => U.heap.size = sz ∧ va_P (dC, dI) classes [(oM, .inr (5, [.int thr, .ref aTx, .int siz, .ref aBg, .ref aEn, .ref aLe, .ref aMa, .ref aFi, .int lnm, .int rsm, .ref aHe, .int bxs, .int wdt, .int hgh, .ref aCa, .ref aTo, .int byn, .ref aTu, .int pgm, .int tpm, .int stn, .int lnx, .int lny])), (aCa, .inl (cI, 64, .inl cgs))] U.heap ∧ va_K (dC, dI) classes [(cI, .int), (cZ, .boolean)] U ∧ va_D (fun _ => True) [(oM, .inr (5, [.int thr, .ref aTx, .int siz, .ref aBg, .ref aEn, .ref aLe, .ref aMa, .ref aFi, .int lnm, .int rsm, .ref aHe, .int bxs, .int wdt, .int hgh, .ref aCa, .ref aTo, .int byn, .ref aTu, .int pgm, .int tpm, .int stn, .int lnx, .int lny])), (aCa, .inl (cI, 64, .inl cgs))])) (va_Qi (fun (r : Int32) (u : Unit) => (r.toInt = 1 ∧ gd_a wN hN cgs q i = true) ∨ (r.toInt = 0 ∧ gd_a wN hN cgs q i = false)) (fun (u : Unit) (t : State) => va_P (dC, dI) classes [(oM, .inr (5, [.int thr, .ref aTx, .int siz, .ref aBg, .ref aEn, .ref aLe, .ref aMa, .ref aFi, .int lnm, .int rsm, .ref aHe, .int bxs, .int wdt, .int hgh, .ref aCa, .ref aTo, .int byn, .ref aTu, .int pgm, .int tpm, .int stn, .int lnx, .int lny])), (aCa, .inl (cI, 64, .inl cgs))] t.heap ∧ va_K (dC, dI) classes [(cI, .int), (cZ, .boolean)] t ∧ va_D (va_A [(oM, .inr (5, [.int thr, .ref aTx, .int siz, .ref aBg, .ref aEn, .ref aLe, .ref aMa, .ref aFi, .int lnm, .int rsm, .ref aHe, .int bxs, .int wdt, .int hgh, .ref aCa, .ref aTo, .int byn, .ref aTu, .int pgm, .int tpm, .int stn, .int lnx, .int lny])), (aCa, .inl (cI, 64, .inl cgs))] sz) [(oM, .inr (5, [.int thr, .ref aTx, .int siz, .ref aBg, .ref aEn, .ref aLe, .ref aMa, .ref aFi, .int lnm, .int rsm, .ref aHe, .int bxs, .int wdt, .int hgh, .ref aCa, .ref aTo, .int byn, .ref aTu, .int pgm, .int tpm, .int stn, .int lnx, .int lny])), (aCa, .inl (cI, 64, .inl cgs))]) (va_A [(oM, .inr (5, [.int thr, .ref aTx, .int siz, .ref aBg, .ref aEn, .ref aLe, .ref aMa, .ref aFi, .int lnm, .int rsm, .ref aHe, .int bxs, .int wdt, .int hgh, .ref aCa, .ref aTo, .int byn, .ref aTu, .int pgm, .int tpm, .int stn, .int lnx, .int lny])), (aCa, .inl (cI, 64, .inl cgs))] sz)) 0 0 (va_A [(oM, .inr (5, [.int thr, .ref aTx, .int siz, .ref aBg, .ref aEn, .ref aLe, .ref aMa, .ref aFi, .int lnm, .int rsm, .ref aHe, .int bxs, .int wdt, .int hgh, .ref aCa, .ref aTo, .int byn, .ref aTu, .int pgm, .int tpm, .int stn, .int lnx, .int lny])), (aCa, .inl (cI, 64, .inl cgs))] sz) := by
  refine Met.ofW (cc := b_Mod_isThick) (maxL := 4) (ret := (some .boolean)) (by decide) rfl ?_
  intro p e s m args below meth c s₁ B hml hv
  obtain ⟨rfl, hsz, hP, hK, hD0⟩ := hv
  have hx := B.exec
  have hb := B.bytes
  have hr := B.returns
  have hts := atoms_spec (ws := w_Mod_isThick) B.pre
  have hown : s.vm.findClass R_Mod = some m.cls := findClass_of_methodNamed B.named
  have hlocks := B.notSynchronized
  have hw_Mod : ∀ w ∈ w_Mod, w ∈ w_Mod_isThick := by decide +kernel
  subst hsz
  have hD := hD0.self (sz := s.heap.size)
  generalize hAe : va_A [(oM, .inr (5, [.int thr, .ref aTx, .int siz, .ref aBg, .ref aEn, .ref aLe, .ref aMa, .ref aFi, .int lnm, .int rsm, .ref aHe, .int bxs, .int wdt, .int hgh, .ref aCa, .ref aTo, .int byn, .ref aTu, .int pgm, .int tpm, .int stn, .int lnx, .int lny])), (aCa, .inl (cI, 64, .inl cgs))] s.heap.size = A at hD ⊢
  have hA : ∀ q : Nat, s.heap.size ≤ q → A q := fun q h => by rw [← hAe]; exact Or.inr h
  have hS : va_S A s.heap s.heap [] := va_S.rf
  have hP : va_P (dC, dI) classes [(oM, .inr (5, [.int thr, .ref aTx, .int siz, .ref aBg, .ref aEn, .ref aLe, .ref aMa, .ref aFi, .int lnm, .int rsm, .ref aHe, .int bxs, .int wdt, .int hgh, .ref aCa, .ref aTo, .int byn, .ref aTu, .int pgm, .int tpm, .int stn, .int lnx, .int lny])), (aCa, .inl (cI, 64, .inl cgs))] s.heap := hP
  have hl := lv_entry ([.ref oM, .int 0, .int p2, .int p3]) (n := 4) (Nat.le_of_ble_eq_true rfl)
  rw [lg_entry_eq]
  generalize (lg_sl ([.ref oM, .int 0, .int p2, .int p3]) ++ List.replicate (4 - (lg_sl ([.ref oM, .int 0, .int p2, .int p3])).length) Slot.unset).toArray = ls at hl ⊢
  have hl : lv_has ls 4 [(0, .ref oM), (1, .int 0), (2, .int p2), (3, .int p3)] := hl
  refine lv_iload_n hx hb d_Mod_isThick_0 rfl (lv_at hl 1 rfl) ?_
  refine xi_if_eq (tgt := 53) hx hb (show (0 : Int32).toInt = 0 by decide) d_Mod_isThick_1 (by decide) (fun c1 => ?_) (fun c1 => absurd c1 (by decide))
  refine lv_iload_n hx hb d_Mod_isThick_53 rfl (lv_at hl 3 rfl) ?_
  refine xi_if_eq (tgt := 96) hx hb eq d_Mod_isThick_54 (by decide) (fun c54 => ?_) (fun c54 => ?_)
  · refine lv_iconst (v := 1) hx hb d_Mod_isThick_96 (by decide) ?_
    refine lv_goto (tgt := 101) hx hb d_Mod_isThick_97 (by decide) ?_
    exact W.zret (v := 1) hx hb hr rfl (fun t ht hW => ⟨⟨1, (), rfl, (show (1 = 1 ∧ gd_a wN hN cgs q i = true) ∨ (1 = 0 ∧ gd_a wN hN cgs q i = false) from (Or.inl ⟨by decide, decide_eq_true (by omega)⟩)), by rw [ht]; exact hP, va_K.moved hW.alike hK, hD⟩, hS.F ht⟩) hS.2.2 d_Mod_isThick_101
  · refine lv_iload_n hx hb d_Mod_isThick_57 rfl (lv_at hl 3 rfl) ?_
    refine lv_aload_n hx hb d_Mod_isThick_58 rfl (lv_at hl 0 rfl) ?_
    refine va_get (D := (dC, dI)) (ci := 5) (v := .int hgh) (C := R_Mod) (T := F_Mod) (N := 23) hx hb hts hw_Mod hown hK hP 0 rfl rfl 13 (by decide) (hts (.fieldLink R_Mod 35 "PageFormsModel" "high" "I") (by decide +kernel)) (fun _ h9 => h9) rfl d_Mod_isThick_59 ?_
    refine xi_icmp_eq (tgt := 96) hx hb eq eh d_Mod_isThick_62 (by decide) (fun c62 => ?_) (fun c62 => ?_)
    · refine lv_iconst (v := 1) hx hb d_Mod_isThick_96 (by decide) ?_
      refine lv_goto (tgt := 101) hx hb d_Mod_isThick_97 (by decide) ?_
      exact W.zret (v := 1) hx hb hr rfl (fun t ht hW => ⟨⟨1, (), rfl, (show (1 = 1 ∧ gd_a wN hN cgs q i = true) ∨ (1 = 0 ∧ gd_a wN hN cgs q i = false) from (Or.inl ⟨by decide, decide_eq_true (by omega)⟩)), by rw [ht]; exact hP, va_K.moved hW.alike hK, hD⟩, hS.F ht⟩) hS.2.2 d_Mod_isThick_101
    · have hin : (i + wN * q) < 64 := gd_in hw1.2 hh1.2 hi (by omega)
      have hge : wN ≤ wN * q := gd_ge (by omega)
      have hia := gm_ia (W := wN) (i := i) (q := q) (by omega)
      refine lv_aload_n hx hb d_Mod_isThick_65 rfl (lv_at hl 0 rfl) ?_
      refine va_get (D := (dC, dI)) (ci := 5) (v := .ref aCa) (C := R_Mod) (T := F_Mod) (N := 23) hx hb hts hw_Mod hown hK hP 0 rfl rfl 14 (by decide) (hts (.fieldLink R_Mod 38 "PageFormsModel" "cages" "[I") (by decide +kernel)) (fun _ h9 => h9) rfl d_Mod_isThick_66 ?_
      refine lv_iload_n hx hb d_Mod_isThick_69 rfl (lv_at hl 2 rfl) ?_
      refine lv_aload_n hx hb d_Mod_isThick_70 rfl (lv_at hl 0 rfl) ?_
      refine va_get (D := (dC, dI)) (ci := 5) (v := .int wdt) (C := R_Mod) (T := F_Mod) (N := 23) hx hb hts hw_Mod hown hK hP 0 rfl rfl 12 (by decide) (hts (.fieldLink R_Mod 31 "PageFormsModel" "width" "I") (by decide +kernel)) (fun _ h9 => h9) rfl d_Mod_isThick_71 ?_
      refine lv_iload_n hx hb d_Mod_isThick_74 rfl (lv_at hl 3 rfl) ?_
      refine lv_iconst (v := 1) hx hb d_Mod_isThick_75 (by decide) ?_
      refine lv_isub hx hb d_Mod_isThick_76 ?_
      have a76 : (p3 - 1).toInt = ((q : Int) - 1) := xi_sub eq (show (1 : Int32).toInt = 1 by decide) (by omega) (by omega)
      have b76 : (p3 - 1).toInt = ((q - 1 : Nat) : Int) := (by rw [a76]; omega)
      refine lv_imul hx hb d_Mod_isThick_77 ?_
      have a77 : (wdt * (p3 - 1)).toInt = ((wN * (q - 1) : Nat) : Int) := xi_mulN ew b76 (by omega)
      refine lv_iadd hx hb d_Mod_isThick_78 ?_
      have a78 : (p2 + (wdt * (p3 - 1))).toInt = ((i : Int) + ((wN * (q - 1) : Nat) : Int)) := xi_add ei a77 (by omega) (by omega)
      refine xa_iald hx hb hK hP 1 0 rfl rfl a78 (i + wN * (q - 1)) (by omega) (by omega) d_Mod_isThick_79 ?_
      refine lv_aload_n hx hb d_Mod_isThick_80 rfl (lv_at hl 0 rfl) ?_
      refine va_get (D := (dC, dI)) (ci := 5) (v := .ref aCa) (C := R_Mod) (T := F_Mod) (N := 23) hx hb hts hw_Mod hown hK hP 0 rfl rfl 14 (by decide) (hts (.fieldLink R_Mod 38 "PageFormsModel" "cages" "[I") (by decide +kernel)) (fun _ h9 => h9) rfl d_Mod_isThick_81 ?_
      refine lv_iload_n hx hb d_Mod_isThick_84 rfl (lv_at hl 2 rfl) ?_
      refine lv_aload_n hx hb d_Mod_isThick_85 rfl (lv_at hl 0 rfl) ?_
      refine va_get (D := (dC, dI)) (ci := 5) (v := .int wdt) (C := R_Mod) (T := F_Mod) (N := 23) hx hb hts hw_Mod hown hK hP 0 rfl rfl 12 (by decide) (hts (.fieldLink R_Mod 31 "PageFormsModel" "width" "I") (by decide +kernel)) (fun _ h9 => h9) rfl d_Mod_isThick_86 ?_
      refine lv_iload_n hx hb d_Mod_isThick_89 rfl (lv_at hl 3 rfl) ?_
      refine lv_imul hx hb d_Mod_isThick_90 ?_
      have a90 : (wdt * p3).toInt = ((wN * q : Nat) : Int) := xi_mulN ew eq (by omega)
      refine lv_iadd hx hb d_Mod_isThick_91 ?_
      have a91 : (p2 + (wdt * p3)).toInt = ((i : Int) + ((wN * q : Nat) : Int)) := xi_add ei a90 (by omega) (by omega)
      refine xa_iald hx hb hK hP 1 0 rfl rfl a91 (i + wN * q) (by omega) (by omega) d_Mod_isThick_92 ?_
      refine xi_icmp_eq (tgt := 100) hx hb (rfl) (rfl) d_Mod_isThick_93 (by decide) (fun c93 => ?_) (fun c93 => ?_)
      · refine lv_iconst (v := 0) hx hb d_Mod_isThick_100 (by decide) ?_
        exact W.zret (v := 0) hx hb hr rfl (fun t ht hW => ⟨⟨0, (), rfl, (show (0 = 1 ∧ gd_a wN hN cgs q i = true) ∨ (0 = 0 ∧ gd_a wN hN cgs q i = false) from (Or.inr ⟨by decide, decide_eq_false (fun z => by rw [hia] at c93; rcases z with z | z | z; omega; omega; exact z (Int32.toInt_inj.mp c93).symm)⟩)), by rw [ht]; exact hP, va_K.moved hW.alike hK, hD⟩, hS.F ht⟩) hS.2.2 d_Mod_isThick_101
      · refine lv_iconst (v := 1) hx hb d_Mod_isThick_96 (by decide) ?_
        refine lv_goto (tgt := 101) hx hb d_Mod_isThick_97 (by decide) ?_
        exact W.zret (v := 1) hx hb hr rfl (fun t ht hW => ⟨⟨1, (), rfl, (show (1 = 1 ∧ gd_a wN hN cgs q i = true) ∨ (1 = 0 ∧ gd_a wN hN cgs q i = false) from (Or.inl ⟨by decide, decide_eq_true (Or.inr (Or.inr (fun z => c93 (by rw [hia, z]))))⟩)), by rw [ht]; exact hP, va_K.moved hW.alike hK, hD⟩, hS.F ht⟩) hS.2.2 d_Mod_isThick_101

set_option maxHeartbeats 4000000 in
set_option maxRecDepth 100000 in
theorem k_Mod_begins_s (l : Launch) (dC : Nat → ClassId) (dI : Nat → Nat → Nat) (cI cZ : ClassId) (oM : Nat) (aCa : Nat) (thr : Int32) (aTx : Nat) (siz : Int32) (aBg : Nat) (aEn : Nat) (aLe : Nat) (aMa : Nat) (aFi : Nat) (lnm : Int32) (rsm : Int32) (aHe : Nat) (bxs : Int32) (wdt : Int32) (hgh : Int32) (aTo : Nat) (byn : Int32) (aTu : Nat) (pgm : Int32) (tpm : Int32) (stn : Int32) (lnx : Int32) (lny : Int32) (cgs : Nat → Int32) (sz : Nat) (p2 : Int32) (p3 : Int32) (wN : Nat) (hN : Nat) (q : Nat) (i : Nat) (ew : wdt.toInt = (wN : Int)) (eh : hgh.toInt = (hN : Int)) (hw1 : 1 ≤ wN ∧ wN ≤ 8) (hh1 : 1 ≤ hN ∧ hN ≤ 8) (eq : p2.toInt = (q : Int)) (ei : p3.toInt = (i : Int)) (hi : i < hN) (hq : q ≤ wN) : Met l y_Mod_begins w_Mod_begins ({ frames := 1, cells := 0, slots := 0, locals := 23 }) (va_Pc [.ref oM, .int 1, .int p2, .int p3] (fun U => U.heap.size = sz ∧ va_P (dC, dI) classes [(oM, .inr (5, [.int thr, .ref aTx, .int siz, .ref aBg, .ref aEn, .ref aLe, .ref aMa, .ref aFi, .int lnm, .int rsm, .ref aHe, .int bxs, .int wdt, .int hgh, .ref aCa, .ref aTo, .int byn, .ref aTu, .int pgm, .int tpm, .int stn, .int lnx, .int lny])), (aCa, .inl (cI, 64, .inl cgs))] U.heap ∧ va_K (dC, dI) classes [(cI, .int), (cZ, .boolean)] U ∧ va_D (fun _ => True) [(oM, .inr (5, [.int thr, .ref aTx, .int siz, .ref aBg, .ref aEn, .ref aLe, .ref aMa, .ref aFi, .int lnm, .int rsm, .ref aHe, .int bxs, .int wdt, .int hgh, .ref aCa, .ref aTo, .int byn, .ref aTu, .int pgm, .int tpm, .int stn, .int lnx, .int lny])), (aCa, .inl (cI, 64, .inl cgs))])) (va_Qi (fun (r : Int32) (u : Unit) => (r.toInt = 1 ∧ gd_beg (gd_s wN hN cgs q) i = true) ∨ (r.toInt = 0 ∧ gd_beg (gd_s wN hN cgs q) i = false)) (fun (u : Unit) (t : State) => va_P (dC, dI) classes [(oM, .inr (5, [.int thr, .ref aTx, .int siz, .ref aBg, .ref aEn, .ref aLe, .ref aMa, .ref aFi, .int lnm, .int rsm, .ref aHe, .int bxs, .int wdt, .int hgh, .ref aCa, .ref aTo, .int byn, .ref aTu, .int pgm, .int tpm, .int stn, .int lnx, .int lny])), (aCa, .inl (cI, 64, .inl cgs))] t.heap ∧ va_K (dC, dI) classes [(cI, .int), (cZ, .boolean)] t ∧ va_D (va_A [(oM, .inr (5, [.int thr, .ref aTx, .int siz, .ref aBg, .ref aEn, .ref aLe, .ref aMa, .ref aFi, .int lnm, .int rsm, .ref aHe, .int bxs, .int wdt, .int hgh, .ref aCa, .ref aTo, .int byn, .ref aTu, .int pgm, .int tpm, .int stn, .int lnx, .int lny])), (aCa, .inl (cI, 64, .inl cgs))] sz) [(oM, .inr (5, [.int thr, .ref aTx, .int siz, .ref aBg, .ref aEn, .ref aLe, .ref aMa, .ref aFi, .int lnm, .int rsm, .ref aHe, .int bxs, .int wdt, .int hgh, .ref aCa, .ref aTo, .int byn, .ref aTu, .int pgm, .int tpm, .int stn, .int lnx, .int lny])), (aCa, .inl (cI, 64, .inl cgs))]) (va_A [(oM, .inr (5, [.int thr, .ref aTx, .int siz, .ref aBg, .ref aEn, .ref aLe, .ref aMa, .ref aFi, .int lnm, .int rsm, .ref aHe, .int bxs, .int wdt, .int hgh, .ref aCa, .ref aTo, .int byn, .ref aTu, .int pgm, .int tpm, .int stn, .int lnx, .int lny])), (aCa, .inl (cI, 64, .inl cgs))] sz)) 0 0 (va_A [(oM, .inr (5, [.int thr, .ref aTx, .int siz, .ref aBg, .ref aEn, .ref aLe, .ref aMa, .ref aFi, .int lnm, .int rsm, .ref aHe, .int bxs, .int wdt, .int hgh, .ref aCa, .ref aTo, .int byn, .ref aTu, .int pgm, .int tpm, .int stn, .int lnx, .int lny])), (aCa, .inl (cI, 64, .inl cgs))] sz) := by
  refine Met.ofW (cc := b_Mod_begins) (maxL := 4) (ret := (some .boolean)) (by decide) rfl ?_
  intro p e s m args below meth c s₁ B hml hv
  obtain ⟨rfl, hsz, hP, hK, hD0⟩ := hv
  have hx := B.exec
  have hb := B.bytes
  have hr := B.returns
  have hts := atoms_spec (ws := w_Mod_begins) B.pre
  have hown : s.vm.findClass R_Mod = some m.cls := findClass_of_methodNamed B.named
  have hlocks := B.notSynchronized
  have hw_Mod : ∀ w ∈ w_Mod, w ∈ w_Mod_begins := by decide +kernel
  subst hsz
  have hD := hD0.self (sz := s.heap.size)
  generalize hAe : va_A [(oM, .inr (5, [.int thr, .ref aTx, .int siz, .ref aBg, .ref aEn, .ref aLe, .ref aMa, .ref aFi, .int lnm, .int rsm, .ref aHe, .int bxs, .int wdt, .int hgh, .ref aCa, .ref aTo, .int byn, .ref aTu, .int pgm, .int tpm, .int stn, .int lnx, .int lny])), (aCa, .inl (cI, 64, .inl cgs))] s.heap.size = A at hD ⊢
  have hA : ∀ q : Nat, s.heap.size ≤ q → A q := fun q h => by rw [← hAe]; exact Or.inr h
  have hS : va_S A s.heap s.heap [] := va_S.rf
  have hP : va_P (dC, dI) classes [(oM, .inr (5, [.int thr, .ref aTx, .int siz, .ref aBg, .ref aEn, .ref aLe, .ref aMa, .ref aFi, .int lnm, .int rsm, .ref aHe, .int bxs, .int wdt, .int hgh, .ref aCa, .ref aTo, .int byn, .ref aTu, .int pgm, .int tpm, .int stn, .int lnx, .int lny])), (aCa, .inl (cI, 64, .inl cgs))] s.heap := hP
  have hl := lv_entry ([.ref oM, .int 1, .int p2, .int p3]) (n := 4) (Nat.le_of_ble_eq_true rfl)
  rw [lg_entry_eq]
  generalize (lg_sl ([.ref oM, .int 1, .int p2, .int p3]) ++ List.replicate (4 - (lg_sl ([.ref oM, .int 1, .int p2, .int p3])).length) Slot.unset).toArray = ls at hl ⊢
  have hl : lv_has ls 4 [(0, .ref oM), (1, .int 1), (2, .int p2), (3, .int p3)] := hl
  refine lv_iload_n hx hb d_Mod_begins_0 rfl (lv_at hl 1 rfl) ?_
  refine xi_if_eq (tgt := 33) hx hb (show (1 : Int32).toInt = 1 by decide) d_Mod_begins_1 (by decide) (fun c1 => absurd c1 (by decide)) (fun c1 => ?_)
  refine lv_iload_n hx hb d_Mod_begins_4 rfl (lv_at hl 3 rfl) ?_
  refine xi_if_eq (tgt := 27) hx hb ei d_Mod_begins_5 (by decide) (fun c5 => ?_) (fun c5 => ?_)
  · refine lv_iconst (v := 1) hx hb d_Mod_begins_27 (by decide) ?_
    refine lv_goto (tgt := 32) hx hb d_Mod_begins_28 (by decide) ?_
    exact W.zret (v := 1) hx hb hr rfl (fun t ht hW => ⟨⟨1, (), rfl, (show (1 = 1 ∧ gd_beg (gd_s wN hN cgs q) i = true) ∨ (1 = 0 ∧ gd_beg (gd_s wN hN cgs q) i = false) from (Or.inl ⟨by decide, decide_eq_true (Or.inl (by omega))⟩)), by rw [ht]; exact hP, va_K.moved hW.alike hK, hD⟩, hS.F ht⟩) hS.2.2 d_Mod_begins_32
  · refine lv_aload_n hx hb d_Mod_begins_8 rfl (lv_at hl 0 rfl) ?_
    refine lv_iconst (v := 1) hx hb d_Mod_begins_9 (by decide) ?_
    refine lv_iload_n hx hb d_Mod_begins_10 rfl (lv_at hl 2 rfl) ?_
    refine lv_iload_n hx hb d_Mod_begins_11 rfl (lv_at hl 3 rfl) ?_
    refine lv_iconst (v := 1) hx hb d_Mod_begins_12 (by decide) ?_
    refine lv_isub hx hb d_Mod_begins_13 ?_
    have a13 : (p3 - 1).toInt = ((i : Int) - 1) := xi_sub ei (show (1 : Int32).toInt = 1 by decide) (by omega) (by omega)
    have hPc := hP.sub (ws' := [(oM, .inr (5, [.int thr, .ref aTx, .int siz, .ref aBg, .ref aEn, .ref aLe, .ref aMa, .ref aFi, .int lnm, .int rsm, .ref aHe, .int bxs, .int wdt, .int hgh, .ref aCa, .ref aTo, .int byn, .ref aTu, .int pgm, .int tpm, .int stn, .int lnx, .int lny])), (aCa, .inl (cI, 64, .inl cgs))]) [0, 1] rfl
    have hDc := hD.sub (ws' := [(oM, .inr (5, [.int thr, .ref aTx, .int siz, .ref aBg, .ref aEn, .ref aLe, .ref aMa, .ref aFi, .int lnm, .int rsm, .ref aHe, .int bxs, .int wdt, .int hgh, .ref aCa, .ref aTo, .int byn, .ref aTu, .int pgm, .int tpm, .int stn, .int lnx, .int lny])), (aCa, .inl (cI, 64, .inl cgs))]) [0, 1] (by decide) rfl
    have hFc := va_free (wc := [(oM, .inr (5, [.int thr, .ref aTx, .int siz, .ref aBg, .ref aEn, .ref aLe, .ref aMa, .ref aFi, .int lnm, .int rsm, .ref aHe, .int bxs, .int wdt, .int hgh, .ref aCa, .ref aTo, .int byn, .ref aTu, .int pgm, .int tpm, .int stn, .int lnx, .int lny])), (aCa, .inl (cI, 64, .inl cgs))]) hD hS hA [0, 1] rfl
    refine va_calli (va_runV (As := [.int 1, .int p2, .int (p3 - 1)]) (rest := []) ⟨hx, hb, hml, hown, hts⟩ (k_Mod_isThick_s l dC dI cI cZ oM aCa thr aTx siz aBg aEn aLe aMa aFi lnm rsm aHe bxs wdt hgh aTo byn aTu pgm tpm stn lnx lny cgs s.heap.size p2 (p3 - 1) wN hN q (i - 1) ew eh hw1 hh1 eq (by omega) (by omega) hq) (cwV 3 hts g_Mod_begins_Mod_isThick rfl rfl rfl (by decide +kernel) ⟨Nat.le_of_ble_eq_true rfl, Nat.le_of_ble_eq_true rfl⟩) ⟨fun a U g mk q => by obtain ⟨q0, q1, qP, qK, qD⟩ := q; exact ⟨q0, q1, qP, va_K.moved (u := U) (U := U.calling g mk a) (Vm.Alike.refl U.vm) qK, qD⟩, va_recv hK hPc (ci := 5) (q0 := 0) rfl rfl, fun U hU hW => ⟨rfl, by rw [hU], by rw [hU]; exact hPc, va_K.moved hW.alike hK, hDc.weaken (fun _ _ _ _ => trivial)⟩⟩ rfl rfl hl.1 rfl (lv_room (Nat.le_of_ble_eq_true rfl)) d_Mod_begins_14 ⟨Nat.le_of_ble_eq_true rfl, Nat.le_of_ble_eq_true rfl⟩) hS (fun q _ h => hFc q h) hFc (fun r14 u t H1 locs ht hvm hw hB hz1 hk1 hS => ?_)
    have w14 : (r14.toInt = 1 ∧ gd_s wN hN cgs q (i - 1) = true) ∨ (r14.toInt = 0 ∧ gd_s wN hN cgs q (i - 1) = false) := hw
    obtain ⟨hP1, hK1, hD1⟩ := hB
    rw [ht] at hP1
    obtain ⟨hP, hD⟩ := va_join (wr := []) (w1 := [(oM, .inr (5, [.int thr, .ref aTx, .int siz, .ref aBg, .ref aEn, .ref aLe, .ref aMa, .ref aFi, .int lnm, .int rsm, .ref aHe, .int bxs, .int wdt, .int hgh, .ref aCa, .ref aTo, .int byn, .ref aTu, .int pgm, .int tpm, .int stn, .int lnx, .int lny])), (aCa, .inl (cI, 64, .inl cgs))]) hP hD [0, 1] [] rfl rfl (by decide) (by decide) hk1 hFc hP1 hD1
    generalize H1 = H at hP hS ⊢
    have hP : va_P (dC, dI) classes [(oM, .inr (5, [.int thr, .ref aTx, .int siz, .ref aBg, .ref aEn, .ref aLe, .ref aMa, .ref aFi, .int lnm, .int rsm, .ref aHe, .int bxs, .int wdt, .int hgh, .ref aCa, .ref aTo, .int byn, .ref aTu, .int pgm, .int tpm, .int stn, .int lnx, .int lny])), (aCa, .inl (cI, 64, .inl cgs))] H := hP
    have hD : va_D A [(oM, .inr (5, [.int thr, .ref aTx, .int siz, .ref aBg, .ref aEn, .ref aLe, .ref aMa, .ref aFi, .int lnm, .int rsm, .ref aHe, .int bxs, .int wdt, .int hgh, .ref aCa, .ref aTo, .int byn, .ref aTu, .int pgm, .int tpm, .int stn, .int lnx, .int lny])), (aCa, .inl (cI, 64, .inl cgs))] := hD
    refine lv_aload_n hx hb d_Mod_begins_17 rfl (lv_at hl 0 rfl) ?_
    refine lv_iconst (v := 1) hx hb d_Mod_begins_18 (by decide) ?_
    refine lv_iload_n hx hb d_Mod_begins_19 rfl (lv_at hl 2 rfl) ?_
    refine lv_iload_n hx hb d_Mod_begins_20 rfl (lv_at hl 3 rfl) ?_
    have hPc := hP.sub (ws' := [(oM, .inr (5, [.int thr, .ref aTx, .int siz, .ref aBg, .ref aEn, .ref aLe, .ref aMa, .ref aFi, .int lnm, .int rsm, .ref aHe, .int bxs, .int wdt, .int hgh, .ref aCa, .ref aTo, .int byn, .ref aTu, .int pgm, .int tpm, .int stn, .int lnx, .int lny])), (aCa, .inl (cI, 64, .inl cgs))]) [0, 1] rfl
    have hDc := hD.sub (ws' := [(oM, .inr (5, [.int thr, .ref aTx, .int siz, .ref aBg, .ref aEn, .ref aLe, .ref aMa, .ref aFi, .int lnm, .int rsm, .ref aHe, .int bxs, .int wdt, .int hgh, .ref aCa, .ref aTo, .int byn, .ref aTu, .int pgm, .int tpm, .int stn, .int lnx, .int lny])), (aCa, .inl (cI, 64, .inl cgs))]) [0, 1] (by decide) rfl
    have hFc := va_free (wc := [(oM, .inr (5, [.int thr, .ref aTx, .int siz, .ref aBg, .ref aEn, .ref aLe, .ref aMa, .ref aFi, .int lnm, .int rsm, .ref aHe, .int bxs, .int wdt, .int hgh, .ref aCa, .ref aTo, .int byn, .ref aTu, .int pgm, .int tpm, .int stn, .int lnx, .int lny])), (aCa, .inl (cI, 64, .inl cgs))]) hD hS hA [0, 1] rfl
    refine va_calli (va_runV (As := [.int 1, .int p2, .int p3]) (rest := [.int r14]) ⟨hx, hb, hml, hown, hts⟩ (k_Mod_isThick_s l dC dI cI cZ oM aCa thr aTx siz aBg aEn aLe aMa aFi lnm rsm aHe bxs wdt hgh aTo byn aTu pgm tpm stn lnx lny cgs H.size p2 p3 wN hN q i ew eh hw1 hh1 eq ei hi hq) (cwV 3 hts g_Mod_begins_Mod_isThick rfl rfl rfl (by decide +kernel) ⟨Nat.le_of_ble_eq_true rfl, Nat.le_of_ble_eq_true rfl⟩) ⟨fun a U g mk q => by obtain ⟨q0, q1, qP, qK, qD⟩ := q; exact ⟨q0, q1, qP, va_K.moved (u := U) (U := U.calling g mk a) (Vm.Alike.refl U.vm) qK, qD⟩, va_recv hK hPc (ci := 5) (q0 := 0) rfl rfl, fun U hU hW => ⟨rfl, by rw [hU], by rw [hU]; exact hPc, va_K.moved hW.alike hK, hDc.weaken (fun _ _ _ _ => trivial)⟩⟩ rfl rfl hl.1 rfl (lv_room (Nat.le_of_ble_eq_true rfl)) d_Mod_begins_21 ⟨Nat.le_of_ble_eq_true rfl, Nat.le_of_ble_eq_true rfl⟩) hS (fun q _ h => hFc q h) hFc (fun r21 u t H1 locs ht hvm hw hB hz1 hk1 hS => ?_)
    have w21 : (r21.toInt = 1 ∧ gd_s wN hN cgs q i = true) ∨ (r21.toInt = 0 ∧ gd_s wN hN cgs q i = false) := hw
    obtain ⟨hP1, hK1, hD1⟩ := hB
    rw [ht] at hP1
    obtain ⟨hP, hD⟩ := va_join (wr := []) (w1 := [(oM, .inr (5, [.int thr, .ref aTx, .int siz, .ref aBg, .ref aEn, .ref aLe, .ref aMa, .ref aFi, .int lnm, .int rsm, .ref aHe, .int bxs, .int wdt, .int hgh, .ref aCa, .ref aTo, .int byn, .ref aTu, .int pgm, .int tpm, .int stn, .int lnx, .int lny])), (aCa, .inl (cI, 64, .inl cgs))]) hP hD [0, 1] [] rfl rfl (by decide) (by decide) hk1 hFc hP1 hD1
    generalize H1 = H at hP hS ⊢
    have hP : va_P (dC, dI) classes [(oM, .inr (5, [.int thr, .ref aTx, .int siz, .ref aBg, .ref aEn, .ref aLe, .ref aMa, .ref aFi, .int lnm, .int rsm, .ref aHe, .int bxs, .int wdt, .int hgh, .ref aCa, .ref aTo, .int byn, .ref aTu, .int pgm, .int tpm, .int stn, .int lnx, .int lny])), (aCa, .inl (cI, 64, .inl cgs))] H := hP
    have hD : va_D A [(oM, .inr (5, [.int thr, .ref aTx, .int siz, .ref aBg, .ref aEn, .ref aLe, .ref aMa, .ref aFi, .int lnm, .int rsm, .ref aHe, .int bxs, .int wdt, .int hgh, .ref aCa, .ref aTo, .int byn, .ref aTu, .int pgm, .int tpm, .int stn, .int lnx, .int lny])), (aCa, .inl (cI, 64, .inl cgs))] := hD
    refine xi_icmp_eq (tgt := 31) hx hb (rfl) (rfl) d_Mod_begins_24 (by decide) (fun c24 => ?_) (fun c24 => ?_)
    · refine lv_iconst (v := 0) hx hb d_Mod_begins_31 (by decide) ?_
      exact W.zret (v := 0) hx hb hr rfl (fun t ht hW => ⟨⟨0, (), rfl, (show (0 = 1 ∧ gd_beg (gd_s wN hN cgs q) i = true) ∨ (0 = 0 ∧ gd_beg (gd_s wN hN cgs q) i = false) from (Or.inr ⟨by decide, decide_eq_false (fun z => by rcases z with z | z; omega; exact z ((gd_bb w21 w14).mp c24))⟩)), by rw [ht]; exact hP, va_K.moved hW.alike hK, hD⟩, hS.F ht⟩) hS.2.2 d_Mod_begins_32
    · refine lv_iconst (v := 1) hx hb d_Mod_begins_27 (by decide) ?_
      refine lv_goto (tgt := 32) hx hb d_Mod_begins_28 (by decide) ?_
      exact W.zret (v := 1) hx hb hr rfl (fun t ht hW => ⟨⟨1, (), rfl, (show (1 = 1 ∧ gd_beg (gd_s wN hN cgs q) i = true) ∨ (1 = 0 ∧ gd_beg (gd_s wN hN cgs q) i = false) from (Or.inl ⟨by decide, decide_eq_true (Or.inr (fun z => c24 ((gd_bb w21 w14).mpr z)))⟩)), by rw [ht]; exact hP, va_K.moved hW.alike hK, hD⟩, hS.F ht⟩) hS.2.2 d_Mod_begins_32

set_option maxHeartbeats 4000000 in
set_option maxRecDepth 100000 in
theorem k_Mod_begins_a (l : Launch) (dC : Nat → ClassId) (dI : Nat → Nat → Nat) (cI cZ : ClassId) (oM : Nat) (aCa : Nat) (thr : Int32) (aTx : Nat) (siz : Int32) (aBg : Nat) (aEn : Nat) (aLe : Nat) (aMa : Nat) (aFi : Nat) (lnm : Int32) (rsm : Int32) (aHe : Nat) (bxs : Int32) (wdt : Int32) (hgh : Int32) (aTo : Nat) (byn : Int32) (aTu : Nat) (pgm : Int32) (tpm : Int32) (stn : Int32) (lnx : Int32) (lny : Int32) (cgs : Nat → Int32) (sz : Nat) (p2 : Int32) (p3 : Int32) (wN : Nat) (hN : Nat) (q : Nat) (i : Nat) (ew : wdt.toInt = (wN : Int)) (eh : hgh.toInt = (hN : Int)) (hw1 : 1 ≤ wN ∧ wN ≤ 8) (hh1 : 1 ≤ hN ∧ hN ≤ 8) (eq : p3.toInt = (q : Int)) (ei : p2.toInt = (i : Int)) (hi : i < wN) (hq : q ≤ hN) : Met l y_Mod_begins w_Mod_begins ({ frames := 1, cells := 0, slots := 0, locals := 23 }) (va_Pc [.ref oM, .int 0, .int p2, .int p3] (fun U => U.heap.size = sz ∧ va_P (dC, dI) classes [(oM, .inr (5, [.int thr, .ref aTx, .int siz, .ref aBg, .ref aEn, .ref aLe, .ref aMa, .ref aFi, .int lnm, .int rsm, .ref aHe, .int bxs, .int wdt, .int hgh, .ref aCa, .ref aTo, .int byn, .ref aTu, .int pgm, .int tpm, .int stn, .int lnx, .int lny])), (aCa, .inl (cI, 64, .inl cgs))] U.heap ∧ va_K (dC, dI) classes [(cI, .int), (cZ, .boolean)] U ∧ va_D (fun _ => True) [(oM, .inr (5, [.int thr, .ref aTx, .int siz, .ref aBg, .ref aEn, .ref aLe, .ref aMa, .ref aFi, .int lnm, .int rsm, .ref aHe, .int bxs, .int wdt, .int hgh, .ref aCa, .ref aTo, .int byn, .ref aTu, .int pgm, .int tpm, .int stn, .int lnx, .int lny])), (aCa, .inl (cI, 64, .inl cgs))])) (va_Qi (fun (r : Int32) (u : Unit) => (r.toInt = 1 ∧ gd_beg (gd_a wN hN cgs q) i = true) ∨ (r.toInt = 0 ∧ gd_beg (gd_a wN hN cgs q) i = false)) (fun (u : Unit) (t : State) => va_P (dC, dI) classes [(oM, .inr (5, [.int thr, .ref aTx, .int siz, .ref aBg, .ref aEn, .ref aLe, .ref aMa, .ref aFi, .int lnm, .int rsm, .ref aHe, .int bxs, .int wdt, .int hgh, .ref aCa, .ref aTo, .int byn, .ref aTu, .int pgm, .int tpm, .int stn, .int lnx, .int lny])), (aCa, .inl (cI, 64, .inl cgs))] t.heap ∧ va_K (dC, dI) classes [(cI, .int), (cZ, .boolean)] t ∧ va_D (va_A [(oM, .inr (5, [.int thr, .ref aTx, .int siz, .ref aBg, .ref aEn, .ref aLe, .ref aMa, .ref aFi, .int lnm, .int rsm, .ref aHe, .int bxs, .int wdt, .int hgh, .ref aCa, .ref aTo, .int byn, .ref aTu, .int pgm, .int tpm, .int stn, .int lnx, .int lny])), (aCa, .inl (cI, 64, .inl cgs))] sz) [(oM, .inr (5, [.int thr, .ref aTx, .int siz, .ref aBg, .ref aEn, .ref aLe, .ref aMa, .ref aFi, .int lnm, .int rsm, .ref aHe, .int bxs, .int wdt, .int hgh, .ref aCa, .ref aTo, .int byn, .ref aTu, .int pgm, .int tpm, .int stn, .int lnx, .int lny])), (aCa, .inl (cI, 64, .inl cgs))]) (va_A [(oM, .inr (5, [.int thr, .ref aTx, .int siz, .ref aBg, .ref aEn, .ref aLe, .ref aMa, .ref aFi, .int lnm, .int rsm, .ref aHe, .int bxs, .int wdt, .int hgh, .ref aCa, .ref aTo, .int byn, .ref aTu, .int pgm, .int tpm, .int stn, .int lnx, .int lny])), (aCa, .inl (cI, 64, .inl cgs))] sz)) 0 0 (va_A [(oM, .inr (5, [.int thr, .ref aTx, .int siz, .ref aBg, .ref aEn, .ref aLe, .ref aMa, .ref aFi, .int lnm, .int rsm, .ref aHe, .int bxs, .int wdt, .int hgh, .ref aCa, .ref aTo, .int byn, .ref aTu, .int pgm, .int tpm, .int stn, .int lnx, .int lny])), (aCa, .inl (cI, 64, .inl cgs))] sz) := by
  refine Met.ofW (cc := b_Mod_begins) (maxL := 4) (ret := (some .boolean)) (by decide) rfl ?_
  intro p e s m args below meth c s₁ B hml hv
  obtain ⟨rfl, hsz, hP, hK, hD0⟩ := hv
  have hx := B.exec
  have hb := B.bytes
  have hr := B.returns
  have hts := atoms_spec (ws := w_Mod_begins) B.pre
  have hown : s.vm.findClass R_Mod = some m.cls := findClass_of_methodNamed B.named
  have hlocks := B.notSynchronized
  have hw_Mod : ∀ w ∈ w_Mod, w ∈ w_Mod_begins := by decide +kernel
  subst hsz
  have hD := hD0.self (sz := s.heap.size)
  generalize hAe : va_A [(oM, .inr (5, [.int thr, .ref aTx, .int siz, .ref aBg, .ref aEn, .ref aLe, .ref aMa, .ref aFi, .int lnm, .int rsm, .ref aHe, .int bxs, .int wdt, .int hgh, .ref aCa, .ref aTo, .int byn, .ref aTu, .int pgm, .int tpm, .int stn, .int lnx, .int lny])), (aCa, .inl (cI, 64, .inl cgs))] s.heap.size = A at hD ⊢
  have hA : ∀ q : Nat, s.heap.size ≤ q → A q := fun q h => by rw [← hAe]; exact Or.inr h
  have hS : va_S A s.heap s.heap [] := va_S.rf
  have hP : va_P (dC, dI) classes [(oM, .inr (5, [.int thr, .ref aTx, .int siz, .ref aBg, .ref aEn, .ref aLe, .ref aMa, .ref aFi, .int lnm, .int rsm, .ref aHe, .int bxs, .int wdt, .int hgh, .ref aCa, .ref aTo, .int byn, .ref aTu, .int pgm, .int tpm, .int stn, .int lnx, .int lny])), (aCa, .inl (cI, 64, .inl cgs))] s.heap := hP
  have hl := lv_entry ([.ref oM, .int 0, .int p2, .int p3]) (n := 4) (Nat.le_of_ble_eq_true rfl)
  rw [lg_entry_eq]
  generalize (lg_sl ([.ref oM, .int 0, .int p2, .int p3]) ++ List.replicate (4 - (lg_sl ([.ref oM, .int 0, .int p2, .int p3])).length) Slot.unset).toArray = ls at hl ⊢
  have hl : lv_has ls 4 [(0, .ref oM), (1, .int 0), (2, .int p2), (3, .int p3)] := hl
  refine lv_iload_n hx hb d_Mod_begins_0 rfl (lv_at hl 1 rfl) ?_
  refine xi_if_eq (tgt := 33) hx hb (show (0 : Int32).toInt = 0 by decide) d_Mod_begins_1 (by decide) (fun c1 => ?_) (fun c1 => absurd c1 (by decide))
  refine lv_iload_n hx hb d_Mod_begins_33 rfl (lv_at hl 2 rfl) ?_
  refine xi_if_eq (tgt := 56) hx hb ei d_Mod_begins_34 (by decide) (fun c34 => ?_) (fun c34 => ?_)
  · refine lv_iconst (v := 1) hx hb d_Mod_begins_56 (by decide) ?_
    refine lv_goto (tgt := 61) hx hb d_Mod_begins_57 (by decide) ?_
    exact W.zret (v := 1) hx hb hr rfl (fun t ht hW => ⟨⟨1, (), rfl, (show (1 = 1 ∧ gd_beg (gd_a wN hN cgs q) i = true) ∨ (1 = 0 ∧ gd_beg (gd_a wN hN cgs q) i = false) from (Or.inl ⟨by decide, decide_eq_true (Or.inl (by omega))⟩)), by rw [ht]; exact hP, va_K.moved hW.alike hK, hD⟩, hS.F ht⟩) hS.2.2 d_Mod_begins_61
  · refine lv_aload_n hx hb d_Mod_begins_37 rfl (lv_at hl 0 rfl) ?_
    refine lv_iconst (v := 0) hx hb d_Mod_begins_38 (by decide) ?_
    refine lv_iload_n hx hb d_Mod_begins_39 rfl (lv_at hl 2 rfl) ?_
    refine lv_iconst (v := 1) hx hb d_Mod_begins_40 (by decide) ?_
    refine lv_isub hx hb d_Mod_begins_41 ?_
    have a41 : (p2 - 1).toInt = ((i : Int) - 1) := xi_sub ei (show (1 : Int32).toInt = 1 by decide) (by omega) (by omega)
    refine lv_iload_n hx hb d_Mod_begins_42 rfl (lv_at hl 3 rfl) ?_
    have hPc := hP.sub (ws' := [(oM, .inr (5, [.int thr, .ref aTx, .int siz, .ref aBg, .ref aEn, .ref aLe, .ref aMa, .ref aFi, .int lnm, .int rsm, .ref aHe, .int bxs, .int wdt, .int hgh, .ref aCa, .ref aTo, .int byn, .ref aTu, .int pgm, .int tpm, .int stn, .int lnx, .int lny])), (aCa, .inl (cI, 64, .inl cgs))]) [0, 1] rfl
    have hDc := hD.sub (ws' := [(oM, .inr (5, [.int thr, .ref aTx, .int siz, .ref aBg, .ref aEn, .ref aLe, .ref aMa, .ref aFi, .int lnm, .int rsm, .ref aHe, .int bxs, .int wdt, .int hgh, .ref aCa, .ref aTo, .int byn, .ref aTu, .int pgm, .int tpm, .int stn, .int lnx, .int lny])), (aCa, .inl (cI, 64, .inl cgs))]) [0, 1] (by decide) rfl
    have hFc := va_free (wc := [(oM, .inr (5, [.int thr, .ref aTx, .int siz, .ref aBg, .ref aEn, .ref aLe, .ref aMa, .ref aFi, .int lnm, .int rsm, .ref aHe, .int bxs, .int wdt, .int hgh, .ref aCa, .ref aTo, .int byn, .ref aTu, .int pgm, .int tpm, .int stn, .int lnx, .int lny])), (aCa, .inl (cI, 64, .inl cgs))]) hD hS hA [0, 1] rfl
    refine va_calli (va_runV (As := [.int 0, .int (p2 - 1), .int p3]) (rest := []) ⟨hx, hb, hml, hown, hts⟩ (k_Mod_isThick_a l dC dI cI cZ oM aCa thr aTx siz aBg aEn aLe aMa aFi lnm rsm aHe bxs wdt hgh aTo byn aTu pgm tpm stn lnx lny cgs s.heap.size (p2 - 1) p3 wN hN q (i - 1) ew eh hw1 hh1 eq (by omega) (by omega) hq) (cwV 3 hts g_Mod_begins_Mod_isThick rfl rfl rfl (by decide +kernel) ⟨Nat.le_of_ble_eq_true rfl, Nat.le_of_ble_eq_true rfl⟩) ⟨fun a U g mk q => by obtain ⟨q0, q1, qP, qK, qD⟩ := q; exact ⟨q0, q1, qP, va_K.moved (u := U) (U := U.calling g mk a) (Vm.Alike.refl U.vm) qK, qD⟩, va_recv hK hPc (ci := 5) (q0 := 0) rfl rfl, fun U hU hW => ⟨rfl, by rw [hU], by rw [hU]; exact hPc, va_K.moved hW.alike hK, hDc.weaken (fun _ _ _ _ => trivial)⟩⟩ rfl rfl hl.1 rfl (lv_room (Nat.le_of_ble_eq_true rfl)) d_Mod_begins_43 ⟨Nat.le_of_ble_eq_true rfl, Nat.le_of_ble_eq_true rfl⟩) hS (fun q _ h => hFc q h) hFc (fun r43 u t H1 locs ht hvm hw hB hz1 hk1 hS => ?_)
    have w43 : (r43.toInt = 1 ∧ gd_a wN hN cgs q (i - 1) = true) ∨ (r43.toInt = 0 ∧ gd_a wN hN cgs q (i - 1) = false) := hw
    obtain ⟨hP1, hK1, hD1⟩ := hB
    rw [ht] at hP1
    obtain ⟨hP, hD⟩ := va_join (wr := []) (w1 := [(oM, .inr (5, [.int thr, .ref aTx, .int siz, .ref aBg, .ref aEn, .ref aLe, .ref aMa, .ref aFi, .int lnm, .int rsm, .ref aHe, .int bxs, .int wdt, .int hgh, .ref aCa, .ref aTo, .int byn, .ref aTu, .int pgm, .int tpm, .int stn, .int lnx, .int lny])), (aCa, .inl (cI, 64, .inl cgs))]) hP hD [0, 1] [] rfl rfl (by decide) (by decide) hk1 hFc hP1 hD1
    generalize H1 = H at hP hS ⊢
    have hP : va_P (dC, dI) classes [(oM, .inr (5, [.int thr, .ref aTx, .int siz, .ref aBg, .ref aEn, .ref aLe, .ref aMa, .ref aFi, .int lnm, .int rsm, .ref aHe, .int bxs, .int wdt, .int hgh, .ref aCa, .ref aTo, .int byn, .ref aTu, .int pgm, .int tpm, .int stn, .int lnx, .int lny])), (aCa, .inl (cI, 64, .inl cgs))] H := hP
    have hD : va_D A [(oM, .inr (5, [.int thr, .ref aTx, .int siz, .ref aBg, .ref aEn, .ref aLe, .ref aMa, .ref aFi, .int lnm, .int rsm, .ref aHe, .int bxs, .int wdt, .int hgh, .ref aCa, .ref aTo, .int byn, .ref aTu, .int pgm, .int tpm, .int stn, .int lnx, .int lny])), (aCa, .inl (cI, 64, .inl cgs))] := hD
    refine lv_aload_n hx hb d_Mod_begins_46 rfl (lv_at hl 0 rfl) ?_
    refine lv_iconst (v := 0) hx hb d_Mod_begins_47 (by decide) ?_
    refine lv_iload_n hx hb d_Mod_begins_48 rfl (lv_at hl 2 rfl) ?_
    refine lv_iload_n hx hb d_Mod_begins_49 rfl (lv_at hl 3 rfl) ?_
    have hPc := hP.sub (ws' := [(oM, .inr (5, [.int thr, .ref aTx, .int siz, .ref aBg, .ref aEn, .ref aLe, .ref aMa, .ref aFi, .int lnm, .int rsm, .ref aHe, .int bxs, .int wdt, .int hgh, .ref aCa, .ref aTo, .int byn, .ref aTu, .int pgm, .int tpm, .int stn, .int lnx, .int lny])), (aCa, .inl (cI, 64, .inl cgs))]) [0, 1] rfl
    have hDc := hD.sub (ws' := [(oM, .inr (5, [.int thr, .ref aTx, .int siz, .ref aBg, .ref aEn, .ref aLe, .ref aMa, .ref aFi, .int lnm, .int rsm, .ref aHe, .int bxs, .int wdt, .int hgh, .ref aCa, .ref aTo, .int byn, .ref aTu, .int pgm, .int tpm, .int stn, .int lnx, .int lny])), (aCa, .inl (cI, 64, .inl cgs))]) [0, 1] (by decide) rfl
    have hFc := va_free (wc := [(oM, .inr (5, [.int thr, .ref aTx, .int siz, .ref aBg, .ref aEn, .ref aLe, .ref aMa, .ref aFi, .int lnm, .int rsm, .ref aHe, .int bxs, .int wdt, .int hgh, .ref aCa, .ref aTo, .int byn, .ref aTu, .int pgm, .int tpm, .int stn, .int lnx, .int lny])), (aCa, .inl (cI, 64, .inl cgs))]) hD hS hA [0, 1] rfl
    refine va_calli (va_runV (As := [.int 0, .int p2, .int p3]) (rest := [.int r43]) ⟨hx, hb, hml, hown, hts⟩ (k_Mod_isThick_a l dC dI cI cZ oM aCa thr aTx siz aBg aEn aLe aMa aFi lnm rsm aHe bxs wdt hgh aTo byn aTu pgm tpm stn lnx lny cgs H.size p2 p3 wN hN q i ew eh hw1 hh1 eq ei hi hq) (cwV 3 hts g_Mod_begins_Mod_isThick rfl rfl rfl (by decide +kernel) ⟨Nat.le_of_ble_eq_true rfl, Nat.le_of_ble_eq_true rfl⟩) ⟨fun a U g mk q => by obtain ⟨q0, q1, qP, qK, qD⟩ := q; exact ⟨q0, q1, qP, va_K.moved (u := U) (U := U.calling g mk a) (Vm.Alike.refl U.vm) qK, qD⟩, va_recv hK hPc (ci := 5) (q0 := 0) rfl rfl, fun U hU hW => ⟨rfl, by rw [hU], by rw [hU]; exact hPc, va_K.moved hW.alike hK, hDc.weaken (fun _ _ _ _ => trivial)⟩⟩ rfl rfl hl.1 rfl (lv_room (Nat.le_of_ble_eq_true rfl)) d_Mod_begins_50 ⟨Nat.le_of_ble_eq_true rfl, Nat.le_of_ble_eq_true rfl⟩) hS (fun q _ h => hFc q h) hFc (fun r50 u t H1 locs ht hvm hw hB hz1 hk1 hS => ?_)
    have w50 : (r50.toInt = 1 ∧ gd_a wN hN cgs q i = true) ∨ (r50.toInt = 0 ∧ gd_a wN hN cgs q i = false) := hw
    obtain ⟨hP1, hK1, hD1⟩ := hB
    rw [ht] at hP1
    obtain ⟨hP, hD⟩ := va_join (wr := []) (w1 := [(oM, .inr (5, [.int thr, .ref aTx, .int siz, .ref aBg, .ref aEn, .ref aLe, .ref aMa, .ref aFi, .int lnm, .int rsm, .ref aHe, .int bxs, .int wdt, .int hgh, .ref aCa, .ref aTo, .int byn, .ref aTu, .int pgm, .int tpm, .int stn, .int lnx, .int lny])), (aCa, .inl (cI, 64, .inl cgs))]) hP hD [0, 1] [] rfl rfl (by decide) (by decide) hk1 hFc hP1 hD1
    generalize H1 = H at hP hS ⊢
    have hP : va_P (dC, dI) classes [(oM, .inr (5, [.int thr, .ref aTx, .int siz, .ref aBg, .ref aEn, .ref aLe, .ref aMa, .ref aFi, .int lnm, .int rsm, .ref aHe, .int bxs, .int wdt, .int hgh, .ref aCa, .ref aTo, .int byn, .ref aTu, .int pgm, .int tpm, .int stn, .int lnx, .int lny])), (aCa, .inl (cI, 64, .inl cgs))] H := hP
    have hD : va_D A [(oM, .inr (5, [.int thr, .ref aTx, .int siz, .ref aBg, .ref aEn, .ref aLe, .ref aMa, .ref aFi, .int lnm, .int rsm, .ref aHe, .int bxs, .int wdt, .int hgh, .ref aCa, .ref aTo, .int byn, .ref aTu, .int pgm, .int tpm, .int stn, .int lnx, .int lny])), (aCa, .inl (cI, 64, .inl cgs))] := hD
    refine xi_icmp_eq (tgt := 60) hx hb (rfl) (rfl) d_Mod_begins_53 (by decide) (fun c53 => ?_) (fun c53 => ?_)
    · refine lv_iconst (v := 0) hx hb d_Mod_begins_60 (by decide) ?_
      exact W.zret (v := 0) hx hb hr rfl (fun t ht hW => ⟨⟨0, (), rfl, (show (0 = 1 ∧ gd_beg (gd_a wN hN cgs q) i = true) ∨ (0 = 0 ∧ gd_beg (gd_a wN hN cgs q) i = false) from (Or.inr ⟨by decide, decide_eq_false (fun z => by rcases z with z | z; omega; exact z ((gd_bb w50 w43).mp c53))⟩)), by rw [ht]; exact hP, va_K.moved hW.alike hK, hD⟩, hS.F ht⟩) hS.2.2 d_Mod_begins_61
    · refine lv_iconst (v := 1) hx hb d_Mod_begins_56 (by decide) ?_
      refine lv_goto (tgt := 61) hx hb d_Mod_begins_57 (by decide) ?_
      exact W.zret (v := 1) hx hb hr rfl (fun t ht hW => ⟨⟨1, (), rfl, (show (1 = 1 ∧ gd_beg (gd_a wN hN cgs q) i = true) ∨ (1 = 0 ∧ gd_beg (gd_a wN hN cgs q) i = false) from (Or.inl ⟨by decide, decide_eq_true (Or.inr (fun z => c53 ((gd_bb w50 w43).mpr z)))⟩)), by rw [ht]; exact hP, va_K.moved hW.alike hK, hD⟩, hS.F ht⟩) hS.2.2 d_Mod_begins_61

set_option maxHeartbeats 4000000 in
set_option maxRecDepth 100000 in
theorem k_Mod_keep_s (l : Launch) (dC : Nat → ClassId) (dI : Nat → Nat → Nat) (cI cZ : ClassId) (oM : Nat) (thr : Int32) (aTx : Nat) (siz : Int32) (aBg : Nat) (aEn : Nat) (aLe : Nat) (aMa : Nat) (aFi : Nat) (lnm : Int32) (rsm : Int32) (aHe : Nat) (bxs : Int32) (wdt : Int32) (hgh : Int32) (aCa : Nat) (aTo : Nat) (byn : Int32) (aTu : Nat) (pgm : Int32) (tpm : Int32) (stn : Int32) (lnx : Int32) (lny : Int32) (sz : Nat) (p2 : Int32) (p3 : Int32) : Met l y_Mod_keep w_Mod_keep ({ frames := 0, cells := 0, slots := 0, locals := 0 }) (va_Pc [.ref oM, .int 1, .int p2, .int p3] (fun U => U.heap.size = sz ∧ va_P (dC, dI) classes [(oM, .inr (5, [.int thr, .ref aTx, .int siz, .ref aBg, .ref aEn, .ref aLe, .ref aMa, .ref aFi, .int lnm, .int rsm, .ref aHe, .int bxs, .int wdt, .int hgh, .ref aCa, .ref aTo, .int byn, .ref aTu, .int pgm, .int tpm, .int stn, .int lnx, .int lny]))] U.heap ∧ va_K (dC, dI) classes [(cI, .int), (cZ, .boolean)] U ∧ va_D (fun _ => True) [(oM, .inr (5, [.int thr, .ref aTx, .int siz, .ref aBg, .ref aEn, .ref aLe, .ref aMa, .ref aFi, .int lnm, .int rsm, .ref aHe, .int bxs, .int wdt, .int hgh, .ref aCa, .ref aTo, .int byn, .ref aTu, .int pgm, .int tpm, .int stn, .int lnx, .int lny]))])) (va_Qv (fun (u : Int32 × Int32 × Int32) => u.1.toInt = 1 ∧ u.2.1 = p2 ∧ u.2.2 = p3) (fun (u : Int32 × Int32 × Int32) (t : State) => va_P (dC, dI) classes [(oM, .inr (5, [.int thr, .ref aTx, .int siz, .ref aBg, .ref aEn, .ref aLe, .ref aMa, .ref aFi, .int lnm, .int rsm, .ref aHe, .int bxs, .int wdt, .int hgh, .ref aCa, .ref aTo, .int byn, .ref aTu, .int pgm, .int tpm, .int u.1, .int u.2.1, .int u.2.2]))] t.heap ∧ va_K (dC, dI) classes [(cI, .int), (cZ, .boolean)] t ∧ va_D (va_A [(oM, .inr (5, [.int thr, .ref aTx, .int siz, .ref aBg, .ref aEn, .ref aLe, .ref aMa, .ref aFi, .int lnm, .int rsm, .ref aHe, .int bxs, .int wdt, .int hgh, .ref aCa, .ref aTo, .int byn, .ref aTu, .int pgm, .int tpm, .int stn, .int lnx, .int lny]))] sz) [(oM, .inr (5, [.int thr, .ref aTx, .int siz, .ref aBg, .ref aEn, .ref aLe, .ref aMa, .ref aFi, .int lnm, .int rsm, .ref aHe, .int bxs, .int wdt, .int hgh, .ref aCa, .ref aTo, .int byn, .ref aTu, .int pgm, .int tpm, .int u.1, .int u.2.1, .int u.2.2]))]) (va_A [(oM, .inr (5, [.int thr, .ref aTx, .int siz, .ref aBg, .ref aEn, .ref aLe, .ref aMa, .ref aFi, .int lnm, .int rsm, .ref aHe, .int bxs, .int wdt, .int hgh, .ref aCa, .ref aTo, .int byn, .ref aTu, .int pgm, .int tpm, .int stn, .int lnx, .int lny]))] sz)) 0 0 (va_A [(oM, .inr (5, [.int thr, .ref aTx, .int siz, .ref aBg, .ref aEn, .ref aLe, .ref aMa, .ref aFi, .int lnm, .int rsm, .ref aHe, .int bxs, .int wdt, .int hgh, .ref aCa, .ref aTo, .int byn, .ref aTu, .int pgm, .int tpm, .int stn, .int lnx, .int lny]))] sz) := by
  refine Met.ofW (cc := b_Mod_keep) (maxL := 4) (ret := none) (by decide) rfl ?_
  intro p e s m args below meth c s₁ B hml hv
  obtain ⟨rfl, hsz, hP, hK, hD0⟩ := hv
  have hx := B.exec
  have hb := B.bytes
  have hr := B.returns
  have hts := atoms_spec (ws := w_Mod_keep) B.pre
  have hown : s.vm.findClass R_Mod = some m.cls := findClass_of_methodNamed B.named
  have hlocks := B.notSynchronized
  have hw_Mod : ∀ w ∈ w_Mod, w ∈ w_Mod_keep := by decide +kernel
  subst hsz
  have hD := hD0.self (sz := s.heap.size)
  generalize hAe : va_A [(oM, .inr (5, [.int thr, .ref aTx, .int siz, .ref aBg, .ref aEn, .ref aLe, .ref aMa, .ref aFi, .int lnm, .int rsm, .ref aHe, .int bxs, .int wdt, .int hgh, .ref aCa, .ref aTo, .int byn, .ref aTu, .int pgm, .int tpm, .int stn, .int lnx, .int lny]))] s.heap.size = A at hD ⊢
  have hA : ∀ q : Nat, s.heap.size ≤ q → A q := fun q h => by rw [← hAe]; exact Or.inr h
  have hS : va_S A s.heap s.heap [] := va_S.rf
  have hP : va_P (dC, dI) classes [(oM, .inr (5, [.int thr, .ref aTx, .int siz, .ref aBg, .ref aEn, .ref aLe, .ref aMa, .ref aFi, .int lnm, .int rsm, .ref aHe, .int bxs, .int wdt, .int hgh, .ref aCa, .ref aTo, .int byn, .ref aTu, .int pgm, .int tpm, .int stn, .int lnx, .int lny]))] s.heap := hP
  have hl := lv_entry ([.ref oM, .int 1, .int p2, .int p3]) (n := 4) (Nat.le_of_ble_eq_true rfl)
  rw [lg_entry_eq]
  generalize (lg_sl ([.ref oM, .int 1, .int p2, .int p3]) ++ List.replicate (4 - (lg_sl ([.ref oM, .int 1, .int p2, .int p3])).length) Slot.unset).toArray = ls at hl ⊢
  have hl : lv_has ls 4 [(0, .ref oM), (1, .int 1), (2, .int p2), (3, .int p3)] := hl
  refine lv_aload_n hx hb d_Mod_keep_0 rfl (lv_at hl 0 rfl) ?_
  refine lv_iload_n hx hb d_Mod_keep_1 rfl (lv_at hl 1 rfl) ?_
  refine va_put (D := (dC, dI)) (ci := 5) (v := .int 1) (ty := .boolean) (C := R_Mod) (T := F_Mod) (N := 23) hx hb hts hw_Mod t_Mod t_Mod_ok n_Mod hown hK hP hD hS 0 rfl rfl 20 (by decide) (hts (.fieldLink R_Mod 99 "PageFormsModel" "standing" "Z") (by decide +kernel)) (fun _ h9 => h9) rfl (by decide +kernel) rfl rfl (Nat.le_of_ble_eq_true rfl) d_Mod_keep_2 (fun H locs hP hD hS => ?_)
  have hP : va_P (dC, dI) classes [(oM, .inr (5, [.int thr, .ref aTx, .int siz, .ref aBg, .ref aEn, .ref aLe, .ref aMa, .ref aFi, .int lnm, .int rsm, .ref aHe, .int bxs, .int wdt, .int hgh, .ref aCa, .ref aTo, .int byn, .ref aTu, .int pgm, .int tpm, .int 1, .int lnx, .int lny]))] H := hP
  have hD : va_D A [(oM, .inr (5, [.int thr, .ref aTx, .int siz, .ref aBg, .ref aEn, .ref aLe, .ref aMa, .ref aFi, .int lnm, .int rsm, .ref aHe, .int bxs, .int wdt, .int hgh, .ref aCa, .ref aTo, .int byn, .ref aTu, .int pgm, .int tpm, .int 1, .int lnx, .int lny]))] := hD
  refine lv_aload_n hx hb d_Mod_keep_5 rfl (lv_at hl 0 rfl) ?_
  refine lv_iload_n hx hb d_Mod_keep_6 rfl (lv_at hl 2 rfl) ?_
  refine va_put (D := (dC, dI)) (ci := 5) (v := .int p2) (ty := .int) (C := R_Mod) (T := F_Mod) (N := 23) hx hb hts hw_Mod t_Mod t_Mod_ok n_Mod hown hK hP hD hS 0 rfl rfl 21 (by decide) (hts (.fieldLink R_Mod 103 "PageFormsModel" "lineX" "I") (by decide +kernel)) (fun _ h9 => h9) rfl (by decide +kernel) rfl rfl (Nat.le_of_ble_eq_true rfl) d_Mod_keep_7 (fun H locs hP hD hS => ?_)
  have hP : va_P (dC, dI) classes [(oM, .inr (5, [.int thr, .ref aTx, .int siz, .ref aBg, .ref aEn, .ref aLe, .ref aMa, .ref aFi, .int lnm, .int rsm, .ref aHe, .int bxs, .int wdt, .int hgh, .ref aCa, .ref aTo, .int byn, .ref aTu, .int pgm, .int tpm, .int 1, .int p2, .int lny]))] H := hP
  have hD : va_D A [(oM, .inr (5, [.int thr, .ref aTx, .int siz, .ref aBg, .ref aEn, .ref aLe, .ref aMa, .ref aFi, .int lnm, .int rsm, .ref aHe, .int bxs, .int wdt, .int hgh, .ref aCa, .ref aTo, .int byn, .ref aTu, .int pgm, .int tpm, .int 1, .int p2, .int lny]))] := hD
  refine lv_aload_n hx hb d_Mod_keep_10 rfl (lv_at hl 0 rfl) ?_
  refine lv_iload_n hx hb d_Mod_keep_11 rfl (lv_at hl 3 rfl) ?_
  refine va_put (D := (dC, dI)) (ci := 5) (v := .int p3) (ty := .int) (C := R_Mod) (T := F_Mod) (N := 23) hx hb hts hw_Mod t_Mod t_Mod_ok n_Mod hown hK hP hD hS 0 rfl rfl 22 (by decide) (hts (.fieldLink R_Mod 106 "PageFormsModel" "lineY" "I") (by decide +kernel)) (fun _ h9 => h9) rfl (by decide +kernel) rfl rfl (Nat.le_of_ble_eq_true rfl) d_Mod_keep_12 (fun H locs hP hD hS => ?_)
  have hP : va_P (dC, dI) classes [(oM, .inr (5, [.int thr, .ref aTx, .int siz, .ref aBg, .ref aEn, .ref aLe, .ref aMa, .ref aFi, .int lnm, .int rsm, .ref aHe, .int bxs, .int wdt, .int hgh, .ref aCa, .ref aTo, .int byn, .ref aTu, .int pgm, .int tpm, .int 1, .int p2, .int p3]))] H := hP
  have hD : va_D A [(oM, .inr (5, [.int thr, .ref aTx, .int siz, .ref aBg, .ref aEn, .ref aLe, .ref aMa, .ref aFi, .int lnm, .int rsm, .ref aHe, .int bxs, .int wdt, .int hgh, .ref aCa, .ref aTo, .int byn, .ref aTu, .int pgm, .int tpm, .int 1, .int p2, .int p3]))] := hD
  exact W.vret hx hb hr (fun t ht hW => ⟨⟨(1, p2, p3), rfl, (show 1 = 1 ∧ p2 = p2 ∧ p3 = p3 from ⟨by decide, rfl, rfl⟩), by rw [ht]; exact hP, va_K.moved hW.alike hK, hD⟩, hS.F ht⟩) hS.2.2 d_Mod_keep_15

set_option maxHeartbeats 4000000 in
set_option maxRecDepth 100000 in
theorem k_Mod_keep_a (l : Launch) (dC : Nat → ClassId) (dI : Nat → Nat → Nat) (cI cZ : ClassId) (oM : Nat) (thr : Int32) (aTx : Nat) (siz : Int32) (aBg : Nat) (aEn : Nat) (aLe : Nat) (aMa : Nat) (aFi : Nat) (lnm : Int32) (rsm : Int32) (aHe : Nat) (bxs : Int32) (wdt : Int32) (hgh : Int32) (aCa : Nat) (aTo : Nat) (byn : Int32) (aTu : Nat) (pgm : Int32) (tpm : Int32) (stn : Int32) (lnx : Int32) (lny : Int32) (sz : Nat) (p2 : Int32) (p3 : Int32) : Met l y_Mod_keep w_Mod_keep ({ frames := 0, cells := 0, slots := 0, locals := 0 }) (va_Pc [.ref oM, .int 0, .int p2, .int p3] (fun U => U.heap.size = sz ∧ va_P (dC, dI) classes [(oM, .inr (5, [.int thr, .ref aTx, .int siz, .ref aBg, .ref aEn, .ref aLe, .ref aMa, .ref aFi, .int lnm, .int rsm, .ref aHe, .int bxs, .int wdt, .int hgh, .ref aCa, .ref aTo, .int byn, .ref aTu, .int pgm, .int tpm, .int stn, .int lnx, .int lny]))] U.heap ∧ va_K (dC, dI) classes [(cI, .int), (cZ, .boolean)] U ∧ va_D (fun _ => True) [(oM, .inr (5, [.int thr, .ref aTx, .int siz, .ref aBg, .ref aEn, .ref aLe, .ref aMa, .ref aFi, .int lnm, .int rsm, .ref aHe, .int bxs, .int wdt, .int hgh, .ref aCa, .ref aTo, .int byn, .ref aTu, .int pgm, .int tpm, .int stn, .int lnx, .int lny]))])) (va_Qv (fun (u : Int32 × Int32 × Int32) => u.1.toInt = 0 ∧ u.2.1 = p2 ∧ u.2.2 = p3) (fun (u : Int32 × Int32 × Int32) (t : State) => va_P (dC, dI) classes [(oM, .inr (5, [.int thr, .ref aTx, .int siz, .ref aBg, .ref aEn, .ref aLe, .ref aMa, .ref aFi, .int lnm, .int rsm, .ref aHe, .int bxs, .int wdt, .int hgh, .ref aCa, .ref aTo, .int byn, .ref aTu, .int pgm, .int tpm, .int u.1, .int u.2.1, .int u.2.2]))] t.heap ∧ va_K (dC, dI) classes [(cI, .int), (cZ, .boolean)] t ∧ va_D (va_A [(oM, .inr (5, [.int thr, .ref aTx, .int siz, .ref aBg, .ref aEn, .ref aLe, .ref aMa, .ref aFi, .int lnm, .int rsm, .ref aHe, .int bxs, .int wdt, .int hgh, .ref aCa, .ref aTo, .int byn, .ref aTu, .int pgm, .int tpm, .int stn, .int lnx, .int lny]))] sz) [(oM, .inr (5, [.int thr, .ref aTx, .int siz, .ref aBg, .ref aEn, .ref aLe, .ref aMa, .ref aFi, .int lnm, .int rsm, .ref aHe, .int bxs, .int wdt, .int hgh, .ref aCa, .ref aTo, .int byn, .ref aTu, .int pgm, .int tpm, .int u.1, .int u.2.1, .int u.2.2]))]) (va_A [(oM, .inr (5, [.int thr, .ref aTx, .int siz, .ref aBg, .ref aEn, .ref aLe, .ref aMa, .ref aFi, .int lnm, .int rsm, .ref aHe, .int bxs, .int wdt, .int hgh, .ref aCa, .ref aTo, .int byn, .ref aTu, .int pgm, .int tpm, .int stn, .int lnx, .int lny]))] sz)) 0 0 (va_A [(oM, .inr (5, [.int thr, .ref aTx, .int siz, .ref aBg, .ref aEn, .ref aLe, .ref aMa, .ref aFi, .int lnm, .int rsm, .ref aHe, .int bxs, .int wdt, .int hgh, .ref aCa, .ref aTo, .int byn, .ref aTu, .int pgm, .int tpm, .int stn, .int lnx, .int lny]))] sz) := by
  refine Met.ofW (cc := b_Mod_keep) (maxL := 4) (ret := none) (by decide) rfl ?_
  intro p e s m args below meth c s₁ B hml hv
  obtain ⟨rfl, hsz, hP, hK, hD0⟩ := hv
  have hx := B.exec
  have hb := B.bytes
  have hr := B.returns
  have hts := atoms_spec (ws := w_Mod_keep) B.pre
  have hown : s.vm.findClass R_Mod = some m.cls := findClass_of_methodNamed B.named
  have hlocks := B.notSynchronized
  have hw_Mod : ∀ w ∈ w_Mod, w ∈ w_Mod_keep := by decide +kernel
  subst hsz
  have hD := hD0.self (sz := s.heap.size)
  generalize hAe : va_A [(oM, .inr (5, [.int thr, .ref aTx, .int siz, .ref aBg, .ref aEn, .ref aLe, .ref aMa, .ref aFi, .int lnm, .int rsm, .ref aHe, .int bxs, .int wdt, .int hgh, .ref aCa, .ref aTo, .int byn, .ref aTu, .int pgm, .int tpm, .int stn, .int lnx, .int lny]))] s.heap.size = A at hD ⊢
  have hA : ∀ q : Nat, s.heap.size ≤ q → A q := fun q h => by rw [← hAe]; exact Or.inr h
  have hS : va_S A s.heap s.heap [] := va_S.rf
  have hP : va_P (dC, dI) classes [(oM, .inr (5, [.int thr, .ref aTx, .int siz, .ref aBg, .ref aEn, .ref aLe, .ref aMa, .ref aFi, .int lnm, .int rsm, .ref aHe, .int bxs, .int wdt, .int hgh, .ref aCa, .ref aTo, .int byn, .ref aTu, .int pgm, .int tpm, .int stn, .int lnx, .int lny]))] s.heap := hP
  have hl := lv_entry ([.ref oM, .int 0, .int p2, .int p3]) (n := 4) (Nat.le_of_ble_eq_true rfl)
  rw [lg_entry_eq]
  generalize (lg_sl ([.ref oM, .int 0, .int p2, .int p3]) ++ List.replicate (4 - (lg_sl ([.ref oM, .int 0, .int p2, .int p3])).length) Slot.unset).toArray = ls at hl ⊢
  have hl : lv_has ls 4 [(0, .ref oM), (1, .int 0), (2, .int p2), (3, .int p3)] := hl
  refine lv_aload_n hx hb d_Mod_keep_0 rfl (lv_at hl 0 rfl) ?_
  refine lv_iload_n hx hb d_Mod_keep_1 rfl (lv_at hl 1 rfl) ?_
  refine va_put (D := (dC, dI)) (ci := 5) (v := .int 0) (ty := .boolean) (C := R_Mod) (T := F_Mod) (N := 23) hx hb hts hw_Mod t_Mod t_Mod_ok n_Mod hown hK hP hD hS 0 rfl rfl 20 (by decide) (hts (.fieldLink R_Mod 99 "PageFormsModel" "standing" "Z") (by decide +kernel)) (fun _ h9 => h9) rfl (by decide +kernel) rfl rfl (Nat.le_of_ble_eq_true rfl) d_Mod_keep_2 (fun H locs hP hD hS => ?_)
  have hP : va_P (dC, dI) classes [(oM, .inr (5, [.int thr, .ref aTx, .int siz, .ref aBg, .ref aEn, .ref aLe, .ref aMa, .ref aFi, .int lnm, .int rsm, .ref aHe, .int bxs, .int wdt, .int hgh, .ref aCa, .ref aTo, .int byn, .ref aTu, .int pgm, .int tpm, .int 0, .int lnx, .int lny]))] H := hP
  have hD : va_D A [(oM, .inr (5, [.int thr, .ref aTx, .int siz, .ref aBg, .ref aEn, .ref aLe, .ref aMa, .ref aFi, .int lnm, .int rsm, .ref aHe, .int bxs, .int wdt, .int hgh, .ref aCa, .ref aTo, .int byn, .ref aTu, .int pgm, .int tpm, .int 0, .int lnx, .int lny]))] := hD
  refine lv_aload_n hx hb d_Mod_keep_5 rfl (lv_at hl 0 rfl) ?_
  refine lv_iload_n hx hb d_Mod_keep_6 rfl (lv_at hl 2 rfl) ?_
  refine va_put (D := (dC, dI)) (ci := 5) (v := .int p2) (ty := .int) (C := R_Mod) (T := F_Mod) (N := 23) hx hb hts hw_Mod t_Mod t_Mod_ok n_Mod hown hK hP hD hS 0 rfl rfl 21 (by decide) (hts (.fieldLink R_Mod 103 "PageFormsModel" "lineX" "I") (by decide +kernel)) (fun _ h9 => h9) rfl (by decide +kernel) rfl rfl (Nat.le_of_ble_eq_true rfl) d_Mod_keep_7 (fun H locs hP hD hS => ?_)
  have hP : va_P (dC, dI) classes [(oM, .inr (5, [.int thr, .ref aTx, .int siz, .ref aBg, .ref aEn, .ref aLe, .ref aMa, .ref aFi, .int lnm, .int rsm, .ref aHe, .int bxs, .int wdt, .int hgh, .ref aCa, .ref aTo, .int byn, .ref aTu, .int pgm, .int tpm, .int 0, .int p2, .int lny]))] H := hP
  have hD : va_D A [(oM, .inr (5, [.int thr, .ref aTx, .int siz, .ref aBg, .ref aEn, .ref aLe, .ref aMa, .ref aFi, .int lnm, .int rsm, .ref aHe, .int bxs, .int wdt, .int hgh, .ref aCa, .ref aTo, .int byn, .ref aTu, .int pgm, .int tpm, .int 0, .int p2, .int lny]))] := hD
  refine lv_aload_n hx hb d_Mod_keep_10 rfl (lv_at hl 0 rfl) ?_
  refine lv_iload_n hx hb d_Mod_keep_11 rfl (lv_at hl 3 rfl) ?_
  refine va_put (D := (dC, dI)) (ci := 5) (v := .int p3) (ty := .int) (C := R_Mod) (T := F_Mod) (N := 23) hx hb hts hw_Mod t_Mod t_Mod_ok n_Mod hown hK hP hD hS 0 rfl rfl 22 (by decide) (hts (.fieldLink R_Mod 106 "PageFormsModel" "lineY" "I") (by decide +kernel)) (fun _ h9 => h9) rfl (by decide +kernel) rfl rfl (Nat.le_of_ble_eq_true rfl) d_Mod_keep_12 (fun H locs hP hD hS => ?_)
  have hP : va_P (dC, dI) classes [(oM, .inr (5, [.int thr, .ref aTx, .int siz, .ref aBg, .ref aEn, .ref aLe, .ref aMa, .ref aFi, .int lnm, .int rsm, .ref aHe, .int bxs, .int wdt, .int hgh, .ref aCa, .ref aTo, .int byn, .ref aTu, .int pgm, .int tpm, .int 0, .int p2, .int p3]))] H := hP
  have hD : va_D A [(oM, .inr (5, [.int thr, .ref aTx, .int siz, .ref aBg, .ref aEn, .ref aLe, .ref aMa, .ref aFi, .int lnm, .int rsm, .ref aHe, .int bxs, .int wdt, .int hgh, .ref aCa, .ref aTo, .int byn, .ref aTu, .int pgm, .int tpm, .int 0, .int p2, .int p3]))] := hD
  exact W.vret hx hb hr (fun t ht hW => ⟨⟨(0, p2, p3), rfl, (show 0 = 0 ∧ p2 = p2 ∧ p3 = p3 from ⟨by decide, rfl, rfl⟩), by rw [ht]; exact hP, va_K.moved hW.alike hK, hD⟩, hS.F ht⟩) hS.2.2 d_Mod_keep_15
