/-! BOTH CODES: squares as bits -/
theorem cx_xor (a b : Nat) : nI a ^^^ nI b = nI (a ^^^ b) := by
  have h : (nI a ^^^ nI b).toBitVec = (nI (a ^^^ b)).toBitVec := by
    rw [Int32.toBitVec_xor]
    show BitVec.ofNat 32 a ^^^ BitVec.ofNat 32 b = BitVec.ofNat 32 (a ^^^ b)
    rw [BitVec.ofNat_xor]
  exact Int32.toBitVec.inj h
def cs_bit (v : Int32) (x : Nat) : Bool := decide ((v >>> ((8 - nI x) &&& 31)) &&& 1 = 1)
theorem cs_sh : ∀ x, x < 9 → (((8 - nI x) &&& 31).toBitVec.smod 32).toNat = 8 - x := by decide +kernel
theorem cs_nat {k x : Nat} (hk : k < 512) (hx : x < 9) : cs_bit (nI k) x = k.testBit (8 - x) := by
  unfold cs_bit
  rw [pk_shrN (by omega) _ (8 - x) (cs_sh x hx)]
  have h1 : k / 2 ^ (8 - x) ≤ k := Nat.div_le_self _ _
  rw [pk_andN (by omega) 1 (by decide), Nat.testBit_eq_decide_div_mod_eq]
  have h2 : nI (k / 2 ^ (8 - x) % 2 ^ 1) = 1 ↔ k / 2 ^ (8 - x) % 2 = 1 := nI_eq (a := k / 2 ^ (8 - x) % 2 ^ 1) (b := 1) (by omega) (by decide)
  rw [Bool.eq_iff_iff, decide_eq_true_iff, decide_eq_true_iff]
  exact h2
theorem cs_one : ∀ x, x < 9 → (1 : Int32) <<< ((8 - nI x) &&& 31) = nI (2 ^ (8 - x)) := by decide +kernel
theorem cx_512 {a b : Nat} (ha : a < 512) (hb : b < 512) : a ^^^ b < 512 := Nat.xor_lt_two_pow (n := 9) ha hb
/-- rows of nine squares -/
def cs_ok (v : Int32) : Prop := ∃ k, k < 512 ∧ v = nI k
theorem cs_xor {u v : Int32} (hu : cs_ok u) (hv : cs_ok v) : cs_ok (u ^^^ v) ∧ ∀ x, x < 9 → cs_bit (u ^^^ v) x = (cs_bit u x ^^ cs_bit v x) := by
  obtain ⟨a, ha, rfl⟩ := hu
  obtain ⟨b, hb, rfl⟩ := hv
  rw [cx_xor]
  refine ⟨⟨_, cx_512 ha hb, rfl⟩, fun x hx => ?_⟩
  rw [cs_nat (cx_512 ha hb) hx, cs_nat ha hx, cs_nat hb hx, Nat.testBit_xor]
theorem cs_one_ok {x : Nat} (hx : x < 9) : cs_ok ((1 : Int32) <<< ((8 - nI x) &&& 31)) ∧ ∀ z, z < 9 → cs_bit ((1 : Int32) <<< ((8 - nI x) &&& 31)) z = decide (z = x) := by
  have h1 : 2 ^ (8 - x) < 512 := by
    have : 2 ^ (8 - x) ≤ 2 ^ 8 := Nat.pow_le_pow_right (by decide) (by omega)
    omega
  rw [cs_one x hx]
  refine ⟨⟨_, h1, rfl⟩, fun z hz => ?_⟩
  rw [cs_nat h1 hz, Nat.testBit_two_pow]
  rw [Bool.eq_iff_iff, decide_eq_true_iff, decide_eq_true_iff]
  omega
/-- exclusive or of the first n -/
def xf (f : Nat → Bool) : Nat → Bool
  | 0 => false
  | n + 1 => xf f n ^^ f n
theorem xf_congr {f g : Nat → Bool} : ∀ n, (∀ j, j < n → f j = g j) → xf f n = xf g n := by
  intro n
  induction n with
  | zero => intro _; rfl
  | succ n ih => intro h; rw [xf, xf, ih (fun j hj => h j (by omega)), h n (by omega)]
theorem xf_xor (f g : Nat → Bool) : ∀ n, xf (fun i => f i ^^ g i) n = (xf f n ^^ xf g n) := by
  intro n
  induction n with
  | zero => rfl
  | succ n ih =>
    rw [xf, xf, xf, ih]
    cases xf f n <;> cases xf g n <;> cases f n <;> cases g n <;> rfl
theorem xf_0 : ∀ n, xf (fun _ => false) n = false := by
  intro n
  induction n with
  | zero => rfl
  | succ n ih => rw [xf, ih]; rfl
theorem xf_swap (F : Nat → Nat → Bool) (m : Nat) : ∀ n, xf (fun x => xf (fun k => F k x) m) n = xf (fun k => xf (fun x => F k x) n) m := by
  intro n
  induction n with
  | zero => exact (xf_0 m).symm
  | succ n ih =>
    rw [xf, ih, ← xf_xor]
    rfl
theorem xf_cnt (f : Nat → Bool) : ∀ n, decide (cr_cnt f n % 2 = 1) = xf f n := by
  intro n
  induction n with
  | zero => rfl
  | succ n ih =>
    rw [xf, ← ih]
    cases h : f n
    · rw [cr_cnt_n h]; cases decide (cr_cnt f n % 2 = 1) <;> rfl
    · rw [cr_cnt_y h]
      rcases Nat.mod_two_eq_zero_or_one (cr_cnt f n) with q | q
      · rw [decide_eq_true (show (cr_cnt f n + 1) % 2 = 1 by omega), decide_eq_false (by omega)]; rfl
      · rw [decide_eq_false (show ¬ (cr_cnt f n + 1) % 2 = 1 by omega), decide_eq_true q]; rfl
theorem cr_cnt_congr {f g : Nat → Bool} : ∀ n, (∀ j, j < n → f j = g j) → cr_cnt f n = cr_cnt g n := by
  intro n
  induction n with
  | zero => intro _; rfl
  | succ n ih => intro h; rw [cr_cnt, cr_cnt, ih (fun j hj => h j (by omega)), h n (by omega)]
theorem cr_lst_congr {f g : Nat → Bool} : ∀ n, (∀ j, j < n → f j = g j) → cr_lst f n = cr_lst g n := by
  intro n
  induction n with
  | zero => intro _; rfl
  | succ n ih => intro h; rw [cr_lst, cr_lst, ih (fun j hj => h j (by omega)), h n (by omega)]
theorem cd_c_cnt (f : Nat → Int32) : ∀ n, cd_c f n = cr_cnt (fun y => cd_odd (f y)) n := by
  intro n
  induction n with
  | zero => rfl
  | succ n ih => rw [cd_c, cr_cnt, ih]
theorem cd_l_lst (f : Nat → Int32) : ∀ n, cd_l f n = cr_lst (fun y => cd_odd (f y)) n := by
  intro n
  induction n with
  | zero => rfl
  | succ n ih => rw [cd_l, cr_lst, ih]
theorem cd_x_bit {f : Nat → Int32} : ∀ n, (∀ y, y < n → cs_ok (f y)) → cs_ok (cd_x f n) ∧ ∀ x, x < 9 → cs_bit (cd_x f n) x = xf (fun y => cs_bit (f y) x) n := by
  intro n
  induction n with
  | zero =>
    intro _
    exact ⟨⟨0, by decide, (show (0 : Int32) = nI 0 by decide)⟩, (show ∀ x, x < 9 → cs_bit 0 x = false by decide +kernel)⟩
  | succ n ih =>
    intro h
    obtain ⟨h1, h2⟩ := ih (fun y hy => h y (by omega))
    obtain ⟨h3, h4⟩ := cs_xor h1 (h n (by omega))
    refine ⟨h3, fun x hx => ?_⟩
    show cs_bit (cd_x f n ^^^ f n) x = _
    rw [h4 x hx, h2 x hx]
    rfl
/-- what a program decides -/
theorem ck_odd : ∀ k, k < 512 → cd_odd (nI k) = xf (fun x => cs_bit (nI k) x) 9 := by decide +kernel
theorem ck_bc : ∀ k, k < 512 → (cd_bc (nI k) = 1 ↔ cr_cnt (fun x => cs_bit (nI k) x) 9 = 1) := by decide +kernel
theorem ck_0 : ∀ k, k < 512 → (nI k = 0 ↔ cr_cnt (fun x => cs_bit (nI k) x) 9 = 0) := by decide +kernel
theorem ck_lst : ∀ k, k < 512 → cr_cnt (fun x => cs_bit (nI k) x) 9 = 1 → ∀ x, x < 9 → cs_bit (nI k) x = decide (x = cr_lst (fun x => cs_bit (nI k) x) 9) := by decide +kernel
theorem ck_enc : ∀ b, b < 256 → ∀ x, x < 9 → cs_bit (cd_enc (nI b)) x = decide (cm_in (nI b) x 8 % 2 = 1) := by decide +kernel
theorem ck_encok : ∀ b, b < 256 → ((cd_enc (nI b)).toInt.toNat < 512 ∧ cd_enc (nI b) = nI (cd_enc (nI b)).toInt.toNat) := by decide +kernel
theorem ck_row : ∀ b, b < 256 → xf (fun x => decide (cm_in (nI b) x 8 % 2 = 1)) 9 = false := by decide +kernel
def cv_f (f : Nat → Bool) : Nat → Nat
  | 0 => 0
  | x + 1 => 2 * cv_f f x + (if f x = true then 1 else 0)
theorem ck_val : ∀ k, k < 512 → (nI k >>> ((1 : Int32) &&& 31)).toInt = (cv_f (fun x => cs_bit (nI k) x) 8 : Int) := by decide +kernel
theorem cv_congr {f g : Nat → Bool} : ∀ n, (∀ j, j < n → f j = g j) → cv_f f n = cv_f g n := by
  intro n
  induction n with
  | zero => intro _; rfl
  | succ n ih => intro h; rw [cv_f, cv_f, ih (fun j hj => h j (by omega)), h n (by omega)]
theorem cv_eq (tol trn : Nat → Int32) (n y : Nat) : ∀ x, cv_val tol trn n y x = cv_f (fun x => cm_dark tol trn n x y) x := by
  intro x
  induction x with
  | zero => rfl
  | succ x ih => rw [cv_val, cv_f, ih]
