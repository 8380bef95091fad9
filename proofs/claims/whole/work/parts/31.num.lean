/-! ===== numbers: the ints as whole numbers ===== -/
def iI (z : Int) : Int32 := Int32.ofInt z
theorem iI_add (a b : Int) : iI a + iI b = iI (a + b) := (Int32.ofInt_add a b).symm
theorem iI_mul (a b : Int) : iI a * iI b = iI (a * b) := (Int32.ofInt_mul a b).symm
theorem iI_neg (a : Int) : -iI a = iI (-a) := (Int32.ofInt_neg a).symm
theorem iI_sub (a b : Int) : iI a - iI b = iI (a - b) := by rw [Int32.sub_eq_add_neg, iI_neg, iI_add, Int.sub_eq_add_neg]
theorem iI_nI (k : Nat) : nI k = iI (k : Int) := by
  unfold nI iI
  exact (Int32.ofInt_eq_ofNat).symm
theorem iI_lit (n : Nat) : (OfNat.ofNat n : Int32) = iI (OfNat.ofNat n : Int) := iI_nI n
theorem iI_toInt {z : Int} (h1 : -2147483648 ≤ z) (h2 : z < 2147483648) : (iI z).toInt = z := by
  unfold iI
  rw [Int32.toInt_ofInt]
  show Int.bmod z 4294967296 = z
  exact Int.bmod_eq_of_le (by omega) (by omega)
theorem iI_of (x : Int32) : x = iI x.toInt := by
  unfold iI
  exact (Int32.ofInt_toInt x).symm
theorem iI_lt {a b : Int} (h1 : -2147483648 ≤ a) (h2 : a < 2147483648) (h3 : -2147483648 ≤ b) (h4 : b < 2147483648) : (iI a < iI b) = (a < b) := by
  rw [Int32.lt_iff_toInt_lt, iI_toInt h1 h2, iI_toInt h3 h4]
theorem iI_le {a b : Int} (h1 : -2147483648 ≤ a) (h2 : a < 2147483648) (h3 : -2147483648 ≤ b) (h4 : b < 2147483648) : (iI a ≤ iI b) = (a ≤ b) := by
  rw [Int32.le_iff_toInt_le, iI_toInt h1 h2, iI_toInt h3 h4]
theorem iI_eq {a b : Int} (h1 : -2147483648 ≤ a) (h2 : a < 2147483648) (h3 : -2147483648 ≤ b) (h4 : b < 2147483648) : (iI a = iI b) = (a = b) := by
  apply propext
  constructor
  · intro h
    have := congrArg Int32.toInt h
    rwa [iI_toInt h1 h2, iI_toInt h3 h4] at this
  · intro h; rw [h]
theorem iI_cl (k : Nat) (h : k < 2147483648) : (iI (k : Int)).toNatClampNeg = k := by
  rw [← iI_nI]
  exact nI_clamp h
theorem iI_clz {z : Int} (h1 : 0 ≤ z) (h2 : z < 2147483648) : (iI z).toNatClampNeg = z.toNat := by
  obtain ⟨k, rfl⟩ := Int.eq_ofNat_of_zero_le h1
  rw [iI_cl k (by omega)]
  rfl
theorem iI_in {z : Int} {N : Nat} (h1 : 0 ≤ z) (h2 : z < N) (h3 : N < 2147483648) : vp_in (iI z) N = True := by
  apply propext
  constructor
  · intro _; trivial
  · intro _
    rw [vp_in_iff, iI_toInt (by omega) (by omega)]
    exact ⟨h1, h2⟩
/-- data as whole numbers -/
def dI (E : Nat → Nat → Int) : am_D := fun a i => iI (E a i)
theorem dI_ap (E : Nat → Nat → Int) (a i : Nat) : dI E a i = iI (E a i) := rfl
def wE (E : Nat → Nat → Int) (a k : Nat) (z : Int) : Nat → Nat → Int := fun b i => if b = a ∧ i = k then z else E b i
theorem dI_wr (E : Nat → Nat → Int) (a k : Nat) (z : Int) : am_wr (dI E) a k (iI z) = dI (wE E a k z) := by
  funext b i
  unfold am_wr dI wE
  split <;> rfl
theorem wE_s (E : Nat → Nat → Int) (a k : Nat) (z : Int) : wE E a k z a k = z := by simp [wE]
theorem wE_i {E : Nat → Nat → Int} {a k i : Nat} {z : Int} (h : i ≠ k) : wE E a k z a i = E a i := by simp [wE, h]
theorem wE_a {E : Nat → Nat → Int} {a b k i : Nat} {z : Int} (h : b ≠ a) : wE E a k z b i = E b i := by simp [wE, h]
/-- a loop, from its end back -/
theorem am_loop {P : Nat → Prop} {n : Nat} (step : ∀ k, k < n → P (k + 1) → P k) (h : P n) {k : Nat} (hk : k ≤ n) : P k := by
  obtain ⟨m, hm⟩ := Nat.le.dest hk
  induction m generalizing k with
  | zero => rw [show k = n by omega]; exact h
  | succ m ih => exact step k (by omega) (ih (k := k + 1) (by omega) (by omega))
theorem am_L {a b : Int64} : (lg_cmp a b < 0) = (a < b) := propext (lg_cmp_lt a b)
theorem am_G {a b : Int64} : (0 < lg_cmp a b) = (b < a) := propext (lg_cmp_gt a b)
theorem iL_lit (n : Nat) : (OfNat.ofNat n : Int64) = Int64.ofInt (OfNat.ofNat n : Int) := (Int64.ofInt_eq_ofNat).symm
theorem iL_of (z : Int) (h1 : -2147483648 ≤ z) (h2 : z < 2147483648) : (iI z).toInt64 = Int64.ofInt z := by
  apply Int64.toInt_inj.mp
  rw [Int32.toInt_toInt64, iI_toInt h1 h2, Int64.toInt_ofInt]
  show z = Int.bmod z 18446744073709551616
  exact (Int.bmod_eq_of_le (by omega) (by omega)).symm
theorem iL_toInt {a : Int} (h1 : -9000000000000000000 ≤ a) (h2 : a < 9000000000000000000) : (Int64.ofInt a).toInt = a := by
  rw [Int64.toInt_ofInt]
  show Int.bmod a 18446744073709551616 = a
  exact Int.bmod_eq_of_le (by omega) (by omega)
theorem iL_lt {a b : Int} (h1 : -9000000000000000000 ≤ a) (h2 : a < 9000000000000000000) (h3 : -9000000000000000000 ≤ b) (h4 : b < 9000000000000000000) : (Int64.ofInt a < Int64.ofInt b) = (a < b) := by
  rw [Int64.lt_iff_toInt_lt, iL_toInt h1 h2, iL_toInt h3 h4]
theorem tl_0 : (0 : Int).toNat = 0 := rfl
theorem tl_1 : (1 : Int).toNat = 1 := rfl
theorem tl_2 : (2 : Int).toNat = 2 := rfl
theorem tl_3 : (3 : Int).toNat = 3 := rfl
theorem tl_4 : (4 : Int).toNat = 4 := rfl
theorem tl_5 : (5 : Int).toNat = 5 := rfl
theorem tl_6 : (6 : Int).toNat = 6 := rfl
theorem tl_7 : (7 : Int).toNat = 7 := rfl
theorem tl_8 : (8 : Int).toNat = 8 := rfl
theorem tl_9 : (9 : Int).toNat = 9 := rfl
theorem tl_10 : (10 : Int).toNat = 10 := rfl
theorem tl_11 : (11 : Int).toNat = 11 := rfl
theorem tl_12 : (12 : Int).toNat = 12 := rfl
theorem tl_13 : (13 : Int).toNat = 13 := rfl
theorem tl_14 : (14 : Int).toNat = 14 := rfl
theorem tl_15 : (15 : Int).toNat = 15 := rfl
theorem tl_16 : (16 : Int).toNat = 16 := rfl
theorem tn_3 (k : Nat) : (3 + (k : Int)).toNat = 3 + k := by omega
theorem tn_5 (k : Nat) : (5 + (k : Int)).toNat = 5 + k := by omega
theorem tn_13 (k : Nat) : (13 + (k : Int)).toNat = 13 + k := by omega
theorem tn_21 (k : Nat) : (21 + (k : Int)).toNat = 21 + k := by omega
theorem tn_29 (k : Nat) : (29 + (k : Int)).toNat = 29 + k := by omega
theorem tn_33 (k : Nat) : (33 + (k : Int)).toNat = 33 + k := by omega
theorem tn_37 (k : Nat) : (37 + (k : Int)).toNat = 37 + k := by omega
theorem tn_41 (k : Nat) : (41 + (k : Int)).toNat = 41 + k := by omega
theorem tn_45 (k : Nat) : (45 + (k : Int)).toNat = 45 + k := by omega
theorem tn_49 (k : Nat) : (49 + (k : Int)).toNat = 49 + k := by omega
theorem tn_53 (k : Nat) : (53 + (k : Int)).toNat = 53 + k := by omega
theorem tn_57 (k : Nat) : (57 + (k : Int)).toNat = 57 + k := by omega
theorem tn_61 (p k : Nat) : (61 + 4 * (p : Int) + (k : Int)).toNat = 61 + 4 * p + k := by omega
theorem tn_40 (p k : Nat) : (40 * (p : Int) + (k : Int)).toNat = 40 * p + k := by omega
theorem tn_p (j k : Nat) : ((j : Int) + (k : Int)).toNat = j + k := by omega
theorem tn_0 (k : Nat) : ((k : Int)).toNat = k := by omega
theorem iI_sl : ∀ n, n < 32 → ((nI n &&& 31).toBitVec.smod 32).toNat = n := by decide +kernel
theorem iI_shl {k : Nat} (h : k < 31) : (iI 1 <<< (iI (k : Int) &&& iI 31)) = iI ((2 ^ k : Nat) : Int) := by
  have e := pk_shlN (n := 1) (nI k &&& 31) k (iI_sl k (by omega)) (by rw [Nat.one_mul]; exact Nat.lt_of_lt_of_le (Nat.pow_lt_pow_right (by omega) h) (by decide))
  rw [Nat.one_mul] at e
  rw [← iI_nI, ← iI_nI]
  exact e
theorem iI_or (a b : Nat) : iI (a : Int) ||| iI (b : Int) = iI ((a ||| b : Nat) : Int) := by
  rw [← iI_nI, ← iI_nI, ← iI_nI]
  apply Int32.toBitVec_inj.1
  show BitVec.ofNat 32 a ||| BitVec.ofNat 32 b = BitVec.ofNat 32 (a ||| b)
  apply BitVec.eq_of_getLsbD_eq
  intro i hi
  simp [hi]
theorem iI_and (a b : Nat) : iI (a : Int) &&& iI (b : Int) = iI ((a &&& b : Nat) : Int) := by
  rw [← iI_nI, ← iI_nI, ← iI_nI]
  apply Int32.toBitVec_inj.1
  show BitVec.ofNat 32 a &&& BitVec.ofNat 32 b = BitVec.ofNat 32 (a &&& b)
  apply BitVec.eq_of_getLsbD_eq
  intro i hi
  simp [hi]
theorem iI_orz {x : Int} {b : Nat} (h : 0 ≤ x) : iI x ||| iI (b : Int) = iI ((x.toNat ||| b : Nat) : Int) := by
  obtain ⟨a, rfl⟩ := Int.eq_ofNat_of_zero_le h
  exact iI_or a b
theorem iI_or0 {x : Int} (h : 0 ≤ x) : iI x ||| iI 0 = iI x := by
  obtain ⟨a, rfl⟩ := Int.eq_ofNat_of_zero_le h
  have e := iI_or a 0
  rw [Nat.or_zero] at e
  exact e
theorem iI_bit {x : Int} {n : Nat} (hx : 0 ≤ x) (hx2 : x < 2147483648) (hn : n < 31) : (iI x >>> (iI (n : Int) &&& iI 31)) &&& iI 1 = iI ((x.toNat / 2 ^ n % 2 : Nat) : Int) := by
  obtain ⟨a, rfl⟩ := Int.eq_ofNat_of_zero_le hx
  have e := pk_shrN (n := a) (by omega) (nI n &&& 31) n (iI_sl n (by omega))
  have e2 : nI a >>> (nI n &&& 31) &&& 1 = nI (a / 2 ^ n % 2) := by
    rw [e]
    have h3 : a / 2 ^ n ≤ a := Nat.div_le_self a (2 ^ n)
    exact pk_andN (by omega) 1 rfl
  rw [← iI_nI, ← iI_nI, ← iI_nI]
  exact e2
/-- a row of the data -/
def updI (t : Nat → Int) (k : Nat) (z : Int) : Nat → Int := fun i => if i = k then z else t i
def setR (E : Nat → Nat → Int) (q : Nat) (t : Nat → Int) : Nat → Nat → Int := fun b => if b = q then t else E b
theorem setR_s (E : Nat → Nat → Int) (q : Nat) (t : Nat → Int) : setR E q t q = t := by simp [setR]
theorem setR_n {E : Nat → Nat → Int} {q b : Nat} {t : Nat → Int} (h : b ≠ q) : setR E q t b = E b := by simp [setR, h]
theorem setR_w (E : Nat → Nat → Int) (q : Nat) (t : Nat → Int) (k : Nat) (z : Int) : wE (setR E q t) q k z = setR E q (updI t k z) := by
  funext b i
  by_cases h : b = q
  · subst h; simp [wE, setR, updI]
  · simp [wE, setR, h]
theorem setR_e (E : Nat → Nat → Int) (q : Nat) : setR E q (E q) = E := by
  funext b i
  by_cases h : b = q
  · subst h; simp [setR]
  · simp [setR, h]
theorem wE_R (E : Nat → Nat → Int) (q k : Nat) (z : Int) : wE E q k z = setR E q (updI (E q) k z) := by
  have := setR_w E q (E q) k z
  rw [setR_e] at this
  exact this
theorem setR_2 (E : Nat → Nat → Int) (q : Nat) (t u : Nat → Int) : setR (setR E q t) q u = setR E q u := by
  funext b i
  by_cases h : b = q
  · subst h; simp [setR]
  · simp [setR, h]
theorem setR_o {E : Nat → Nat → Int} {q p : Nat} {A B C : Nat → Int} (h : p ≠ q) : setR (setR (setR E q A) p B) q C = setR (setR E q C) p B := by
  funext b i
  by_cases h1 : b = q
  · subst h1; simp [setR, Ne.symm h]
  · by_cases h2 : b = p
    · subst h2; simp [setR, h]
    · simp [setR, h1, h2]
theorem updI_2 (t : Nat → Int) (k : Nat) (y z : Int) : updI (updI t k y) k z = updI t k z := by
  funext i
  unfold updI
  split <;> rfl
theorem updI_s (t : Nat → Int) (k : Nat) (z : Int) : updI t k z k = z := by simp [updI]
theorem updI_n {t : Nat → Int} {k i : Nat} {z : Int} (h : i ≠ k) : updI t k z i = t i := by simp [updI, h]
/-- small numbers -/
def tC (t : Nat → Int) : Prop := ∀ i, -1 ≤ t i ∧ t i ≤ 100000
theorem iI_div2 {a : Int} (h : 0 ≤ a) (h2 : a < 2147483648) : iI a / iI 2 = iI (a / 2) := by
  obtain ⟨n, rfl⟩ := Int.eq_ofNat_of_zero_le h
  have e := pk_div (a := n) (d := 2) (by omega) (by omega) (by omega)
  rw [iI_nI, iI_nI, iI_nI] at e
  exact e
theorem am_bi {c : Prop} [Decidable c] : ((if c then iI 1 else iI 0) = iI 0) = ¬ c := by
  have h : ¬ iI 1 = iI 0 := by decide
  by_cases hc : c <;> simp [hc, h]
