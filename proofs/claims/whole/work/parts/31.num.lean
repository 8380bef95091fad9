/-! ===== numbers: the ints as whole numbers ===== -/
def iI (z : Int) : Int32 := Int32.ofInt z
theorem iI_add (a b : Int) : iI a + iI b = iI (a + b) := (Int32.ofInt_add a b).symm
theorem iI_mul (a b : Int) : iI a * iI b = iI (a * b) := (Int32.ofInt_mul a b).symm
theorem iI_neg (a : Int) : -iI a = iI (-a) := (Int32.ofInt_neg a).symm
theorem iI_sub (a b : Int) : iI a - iI b = iI (a - b) := by rw [Int32.sub_eq_add_neg, iI_neg, iI_add, Int.sub_eq_add_neg]
theorem iI_nI (k : Nat) : nI k = iI (k : Int) := by
  unfold nI iI
  exact (Int32.ofInt_eq_ofNat).symm
theorem iI_lit (n : Nat) : (OfNat.ofNat n : Int32) = iI (OfNat.ofNat n : Int) := iI_nI n
theorem iI_toInt {z : Int} (h1 : -2147483648 ≤ z) (h2 : z < 2147483648) : (iI z).toInt = z := by
  unfold iI
  rw [Int32.toInt_ofInt]
  show Int.bmod z 4294967296 = z
  exact Int.bmod_eq_of_le (by omega) (by omega)
theorem iI_of (x : Int32) : x = iI x.toInt := by
  unfold iI
  exact (Int32.ofInt_toInt x).symm
theorem iI_lt {a b : Int} (h1 : -2147483648 ≤ a) (h2 : a < 2147483648) (h3 : -2147483648 ≤ b) (h4 : b < 2147483648) : (iI a < iI b) = (a < b) := by
  rw [Int32.lt_iff_toInt_lt, iI_toInt h1 h2, iI_toInt h3 h4]
theorem iI_le {a b : Int} (h1 : -2147483648 ≤ a) (h2 : a < 2147483648) (h3 : -2147483648 ≤ b) (h4 : b < 2147483648) : (iI a ≤ iI b) = (a ≤ b) := by
  rw [Int32.le_iff_toInt_le, iI_toInt h1 h2, iI_toInt h3 h4]
theorem iI_eq {a b : Int} (h1 : -2147483648 ≤ a) (h2 : a < 2147483648) (h3 : -2147483648 ≤ b) (h4 : b < 2147483648) : (iI a = iI b) = (a = b) := by
  apply propext
  constructor
  · intro h
    have := congrArg Int32.toInt h
    rwa [iI_toInt h1 h2, iI_toInt h3 h4] at this
  · intro h; rw [h]
theorem iI_cl (k : Nat) (h : k < 2147483648) : (iI (k : Int)).toNatClampNeg = k := by
  rw [← iI_nI]
  exact nI_clamp h
theorem iI_clz {z : Int} (h1 : 0 ≤ z) (h2 : z < 2147483648) : (iI z).toNatClampNeg = z.toNat := by
  obtain ⟨k, rfl⟩ := Int.eq_ofNat_of_zero_le h1
  rw [iI_cl k (by omega)]
  rfl
theorem iI_in {z : Int} {N : Nat} (h1 : 0 ≤ z) (h2 : z < N) (h3 : N < 2147483648) : vp_in (iI z) N = True := by
  apply propext
  constructor
  · intro _; trivial
  · intro _
    rw [vp_in_iff, iI_toInt (by omega) (by omega)]
    exact ⟨h1, h2⟩
/-- data as whole numbers -/
def dI (E : Nat → Nat → Int) : am_D := fun a i => iI (E a i)
theorem dI_ap (E : Nat → Nat → Int) (a i : Nat) : dI E a i = iI (E a i) := rfl
def wE (E : Nat → Nat → Int) (a k : Nat) (z : Int) : Nat → Nat → Int := fun b i => if b = a ∧ i = k then z else E b i
theorem dI_wr (E : Nat → Nat → Int) (a k : Nat) (z : Int) : am_wr (dI E) a k (iI z) = dI (wE E a k z) := by
  funext b i
  unfold am_wr dI wE
  split <;> rfl
theorem wE_s (E : Nat → Nat → Int) (a k : Nat) (z : Int) : wE E a k z a k = z := by simp [wE]
theorem wE_i {E : Nat → Nat → Int} {a k i : Nat} {z : Int} (h : i ≠ k) : wE E a k z a i = E a i := by simp [wE, h]
theorem wE_a {E : Nat → Nat → Int} {a b k i : Nat} {z : Int} (h : b ≠ a) : wE E a k z b i = E b i := by simp [wE, h]
/-- a loop, from its end back -/
theorem am_loop {P : Nat → Prop} {n : Nat} (step : ∀ k, k < n → P (k + 1) → P k) (h : P n) {k : Nat} (hk : k ≤ n) : P k := by
  obtain ⟨m, hm⟩ := Nat.le.dest hk
  induction m generalizing k with
  | zero => rw [show k = n by omega]; exact h
  | succ m ih => exact step k (by omega) (ih (k := k + 1) (by omega) (by omega))
theorem am_L {a b : Int64} : (lg_cmp a b < 0) = (a < b) := propext (lg_cmp_lt a b)
theorem am_G {a b : Int64} : (0 < lg_cmp a b) = (b < a) := propext (lg_cmp_gt a b)
theorem iL_lit (n : Nat) : (OfNat.ofNat n : Int64) = Int64.ofInt (OfNat.ofNat n : Int) := (Int64.ofInt_eq_ofNat).symm
theorem iL_of (z : Int) (h1 : -2147483648 ≤ z) (h2 : z < 2147483648) : (iI z).toInt64 = Int64.ofInt z := by
  apply Int64.toInt_inj.mp
  rw [Int32.toInt_toInt64, iI_toInt h1 h2, Int64.toInt_ofInt]
  show z = Int.bmod z 18446744073709551616
  exact (Int.bmod_eq_of_le (by omega) (by omega)).symm
theorem iL_toInt {a : Int} (h1 : -9000000000000000000 ≤ a) (h2 : a < 9000000000000000000) : (Int64.ofInt a).toInt = a := by
  rw [Int64.toInt_ofInt]
  show Int.bmod a 18446744073709551616 = a
  exact Int.bmod_eq_of_le (by omega) (by omega)
theorem iL_lt {a b : Int} (h1 : -9000000000000000000 ≤ a) (h2 : a < 9000000000000000000) (h3 : -9000000000000000000 ≤ b) (h4 : b < 9000000000000000000) : (Int64.ofInt a < Int64.ofInt b) = (a < b) := by
  rw [Int64.lt_iff_toInt_lt, iL_toInt h1 h2, iL_toInt h3 h4]
