/-! ===== the class: ships, sailing, beginning ===== -/
def usr (x y : Int32) : Int32 := (x.toUInt32 >>> (y.toUInt32 &&& Int32.toUInt32 31)).toInt32
def bc1 (x : Int32) : Int32 := x - (usr x 1 &&& 1431655765)
def bc2 (x : Int32) : Int32 := (x &&& 858993459) + (usr x 2 &&& 858993459)
def bc3 (x : Int32) : Int32 := (x + usr x 4) &&& 252645135
def bc4 (x : Int32) : Int32 := x + usr x 8
def bc5 (x : Int32) : Int32 := (x + usr x 16) &&& 63
theorem j_bitCount {d : Nat} {x : Int32} {S : am_S} {D : am_D} : am_sem (d + 1) 210 [.int x] S D = some (some (.int (bc5 (bc4 (bc3 (bc2 (bc1 x)))))), S, D) := by
  refine mJ6_bitCount_0f7a4 rfl rfl ?_
  simp only [eJ6_bitCount_0f7a4_0, eJ6_bitCount_0f7a4_1, eJ6_bitCount_0f7a4_2, eJ6_bitCount_0f7a4_3, eJ6_bitCount_0f7a4_4, eJ6_bitCount_0f7a4_7, eJ6_bitCount_0f7a4_8, eJ6_bitCount_0f7a4_9, eJ6_bitCount_0f7a4_10, eJ6_bitCount_0f7a4_11, eJ6_bitCount_0f7a4_14, eJ6_bitCount_0f7a4_15, eJ6_bitCount_0f7a4_16, eJ6_bitCount_0f7a4_17, eJ6_bitCount_0f7a4_18, eJ6_bitCount_0f7a4_21, eJ6_bitCount_0f7a4_22, eJ6_bitCount_0f7a4_23, eJ6_bitCount_0f7a4_24, eJ6_bitCount_0f7a4_25, eJ6_bitCount_0f7a4_26, eJ6_bitCount_0f7a4_27, eJ6_bitCount_0f7a4_28, eJ6_bitCount_0f7a4_29, eJ6_bitCount_0f7a4_32, eJ6_bitCount_0f7a4_33, eJ6_bitCount_0f7a4_34, eJ6_bitCount_0f7a4_35, eJ6_bitCount_0f7a4_36, eJ6_bitCount_0f7a4_38, eJ6_bitCount_0f7a4_39, eJ6_bitCount_0f7a4_40, eJ6_bitCount_0f7a4_41, eJ6_bitCount_0f7a4_42, eJ6_bitCount_0f7a4_43, eJ6_bitCount_0f7a4_45, eJ6_bitCount_0f7a4_46, eJ6_bitCount_0f7a4_47, eJ6_bitCount_0f7a4_48, eJ6_bitCount_0f7a4_49, eJ6_bitCount_0f7a4_51, eJ6_bitCount_0f7a4_52, am_ci, true_and]
  rfl
theorem bc_64 : ∀ n, n < 64 → bc5 (bc4 (bc3 (bc2 (bc1 (nI n))))) = nI (bcF 64 n) := by decide +kernel
theorem j_bits {d n : Nat} {S : am_S} {D : am_D} (hn : n < 64) : am_sem (d + 1) 210 [.int (iI n)] S D = some (some (.int (iI (bcF 64 n))), S, D) := by
  rw [j_bitCount, ← iI_nI, bc_64 n hn, iI_nI]
theorem RDs_of {E : Nat → Nat → Int} {a : Nat} {t : Nat → Int} (h : RD E a t) (hb : bT t) : RDs E a t := by
  intro s hs hs2
  have h1 := hb.1 (37 + s)
  have h3 := hb.2.2.2.2.1
  rcases h s hs hs2 with ⟨x1, x2, x3⟩ | ⟨x1, x2⟩
  · exact ⟨by omega, by omega⟩
  · exact ⟨by omega, by omega⟩
/-- ships at sea, the first k -/
def seT (t : Nat → Int) : Nat → Nat
  | 0 => 0
  | k + 1 => seT t k ||| (if t (37 + k) ≤ 0 then 0 else 2 ^ k)
theorem seT_s (t : Nat → Int) (k : Nat) : seT t (k + 1) = seT t k ||| (if t (37 + k) ≤ 0 then 0 else 2 ^ k) := rfl
theorem seT_lt (t : Nat → Int) : ∀ k, seT t k < 2 ^ k
  | 0 => by simp [seT]
  | k + 1 => by
    have ih := seT_lt t k
    have h1 : (2 : Nat) ^ k < 2 ^ (k + 1) := Nat.pow_lt_pow_right (by omega) (by omega)
    rw [seT_s]
    apply Nat.or_lt_two_pow (by omega)
    split
    · exact Nat.lt_of_le_of_lt (Nat.zero_le _) h1
    · exact h1
theorem bcF_or : ∀ k, k < 4 → ∀ a, a < 16 → a < 2 ^ k → bcF 64 (a ||| 2 ^ k) = bcF 64 a + 1 := by decide +kernel
theorem bcF_se (t : Nat → Int) : ∀ k, k ≤ 4 → (bcF 64 (seT t k) : Int) = scT t k
  | 0, _ => rfl
  | k + 1, hk => by
    have ih := bcF_se t k (by omega)
    have hl := seT_lt t k
    have h16 := p2_16 (s := k) (by omega)
    rw [seT_s, scT_s]
    split
    · rw [Nat.or_zero]; omega
    · rw [bcF_or k (by omega) _ (by omega) hl]; omega
theorem c_shipsAtSea {d a : Nat} {E : Nat → Nat → Int} {t : Nat → Int} (h : am_lg a) (hR : RL0 E a t) (hb : bT t) (hd : RD E a t) : am_sem (d + 2) 54 [.ref a] am_S0 (dI E) = some (some (.int (iI (seT t (t 2).toNat))), am_S0, dI E) := by
  have a2 := hb.2.2.2.1
  have t3 := hb.2.2.2.2.1
  obtain ⟨K, hK⟩ := Int.eq_ofNat_of_zero_le a2.1
  rw [hK, show ((K : Int)).toNat = K from rfl]
  have e2 : E a 2 = (K : Int) := by rw [hR.1.2.2.1, hK]
  have e3 : E a 3 = t 3 := hR.1.2.2.2.1
  refine mX3_shipsAtSea rfl rfl ?_
  simp (disch := first | omega | simp only [am_ci, am_cr, am_ca]) only [eX3_shipsAtSea_0, eX3_shipsAtSea_1, eX3_shipsAtSea_2, eX3_shipsAtSea_3, am_bi, Int.reduceEq, Int.reduceLT, Int.reduceLE, Int.reduceToNat, ite_self, Decidable.not_not, not_true_eq_false, not_false_eq_true, ↓reduceIte, am_ci, am_cr, am_ca, am_b0, am_b1, am_ts, am_tn, am_then_some, List.cons_append, List.nil_append, ne_eq, iI_lit, iI_add, iI_sub, iI_mul, iI_neg, iI_lt, iI_le, iI_eq, iI_in, iI_clz, dI_ap, dI_wr, setR_s, wE_R, setR_2, setR_n, setR_o, updI_s, updI_n, updI_2, tl_0, tl_1, tl_2, tl_3, tl_4, tl_5, tl_6, tl_7, tl_8, tl_9, tl_10, tl_11, tl_12, tl_13, tl_14, tl_15, tl_16, tn_3, tn_5, tn_13, tn_21, tn_29, tn_33, tn_37, tn_41, tn_45, tn_49, tn_53, tn_57, tn_61, tn_40, tn_p, tn_0, true_and, and_true, sk_0, sk_1, sk_2, sl_2, sk_3, sl_3, sk_4, sl_4, sk_5, sl_5, sk_6, sl_6, sk_7, sl_7, sk_8, sl_8, sk_9, sl_9, sk_10, sl_10, sk_11, sl_11, sk_12, sl_12, sk_13, sk_14, sl_14, sk_15, sk_40, sk_41, sl_41, sk_330, sl_330, sk_355, sk_356, sl_356, sk_357, sl_357, sk_358, sl_358, sk_359, sl_359, sk_360, sl_360, sk_361, sk_362, sl_362, sk_363, sk_376, sk_377, sl_377, sk_378, sk_379, sl_379, sk_380, sl_380, sk_381, sl_381, sk_382, sl_382, sk_383, sl_383, sk_384, sl_384, sk_385, sl_385, sk_386, sl_386, sk_387, sl_387, sk_388, sl_388, sk_389, sl_389, sk_390, sl_390, sk_391, sl_391, sk_392, sl_392, sk_393, sl_393, sk_394, sl_394, sr_0_0, sr_0_1, sr_0_2, sr_0_3, sr_0_4, sr_0_5, sr_0_6, sr_0_7, sr_0_8, sr_0_9, sr_1_0, sr_1_1, sr_1_2, sr_13_0, sr_15_0, sr_15_2, sr_40_0, sr_355_0, sr_355_1, sr_355_2, sr_355_3, sr_355_4, sr_355_5, sr_361_2, sr_361_5, sr_361_6, sr_363_0, sr_363_1, sr_376_0, sr_376_2, sr_378_0, sr_378_1, sr_378_2, sr_378_4, sr_378_8, sr_378_10, sr_378_11, sr_378_12, sr_378_14, sr_378_20, sr_378_21, sr_378_22, sr_378_23, sr_378_24, sr_378_25, sr_378_26, am_vs]
  refine am_loop (P := fun k => am_ev (am_sem (d + 1)) 3 cX3_shipsAtSea 4 [.ref a, .int (iI (seT t k)), .int (iI k)] [] am_S0 (dI E) (some (.int (iI (seT t K))), am_S0, dI E)) (n := K) ?_ ?_ (k := 0) (by omega)
  · intro k hk ih
    obtain ⟨d1, d2⟩ := RDs_of hd hb k (by omega) (by omega)
    have bd := (hb.2.2.2.2.2.2.2.1 k (by omega)).2.2.1
    have H1 := c_isAtSea (d := d) (E := E) (s := k) h (by omega) (by omega) (by omega)
    rw [e3] at H1
    rw [seT_s] at ih
    rw [eX3_shipsAtSea_4]
    by_cases c : t 3 < E (a + 6) k
    · have := d2.mp c
      rw [if_neg (by omega)] at ih
      simp (disch := first | omega | simp only [am_ci, am_cr, am_ca]) only [eX3_shipsAtSea_5, eX3_shipsAtSea_6, eX3_shipsAtSea_9, eX3_shipsAtSea_12, eX3_shipsAtSea_13, eX3_shipsAtSea_14, eX3_shipsAtSea_17, eX3_shipsAtSea_20, eX3_shipsAtSea_21, eX3_shipsAtSea_22, eX3_shipsAtSea_23, eX3_shipsAtSea_24, eX3_shipsAtSea_25, eX3_shipsAtSea_26, eX3_shipsAtSea_29, am_bi, Int.reduceEq, Int.reduceLT, Int.reduceLE, Int.reduceToNat, ite_self, Decidable.not_not, not_true_eq_false, not_false_eq_true, ↓reduceIte, am_ci, am_cr, am_ca, am_b0, am_b1, am_ts, am_tn, am_then_some, List.cons_append, List.nil_append, ne_eq, iI_lit, iI_add, iI_sub, iI_mul, iI_neg, iI_lt, iI_le, iI_eq, iI_in, iI_clz, dI_ap, dI_wr, setR_s, wE_R, setR_2, setR_n, setR_o, updI_s, updI_n, updI_2, tl_0, tl_1, tl_2, tl_3, tl_4, tl_5, tl_6, tl_7, tl_8, tl_9, tl_10, tl_11, tl_12, tl_13, tl_14, tl_15, tl_16, tn_3, tn_5, tn_13, tn_21, tn_29, tn_33, tn_37, tn_41, tn_45, tn_49, tn_53, tn_57, tn_61, tn_40, tn_p, tn_0, true_and, and_true, sk_0, sk_1, sk_2, sl_2, sk_3, sl_3, sk_4, sl_4, sk_5, sl_5, sk_6, sl_6, sk_7, sl_7, sk_8, sl_8, sk_9, sl_9, sk_10, sl_10, sk_11, sl_11, sk_12, sl_12, sk_13, sk_14, sl_14, sk_15, sk_40, sk_41, sl_41, sk_330, sl_330, sk_355, sk_356, sl_356, sk_357, sl_357, sk_358, sl_358, sk_359, sl_359, sk_360, sl_360, sk_361, sk_362, sl_362, sk_363, sk_376, sk_377, sl_377, sk_378, sk_379, sl_379, sk_380, sl_380, sk_381, sl_381, sk_382, sl_382, sk_383, sl_383, sk_384, sl_384, sk_385, sl_385, sk_386, sl_386, sk_387, sl_387, sk_388, sl_388, sk_389, sl_389, sk_390, sl_390, sk_391, sl_391, sk_392, sl_392, sk_393, sl_393, sk_394, sl_394, sr_0_0, sr_0_1, sr_0_2, sr_0_3, sr_0_4, sr_0_5, sr_0_6, sr_0_7, sr_0_8, sr_0_9, sr_1_0, sr_1_1, sr_1_2, sr_13_0, sr_15_0, sr_15_2, sr_40_0, sr_355_0, sr_355_1, sr_355_2, sr_355_3, sr_355_4, sr_355_5, sr_361_2, sr_361_5, sr_361_6, sr_363_0, sr_363_1, sr_376_0, sr_376_2, sr_378_0, sr_378_1, sr_378_2, sr_378_4, sr_378_8, sr_378_10, sr_378_11, sr_378_12, sr_378_14, sr_378_20, sr_378_21, sr_378_22, sr_378_23, sr_378_24, sr_378_25, sr_378_26, am_vs, h.k, e2, H1, c, iI_shl, iI_or]
      repeat (first | rw [if_pos (by omega)] | rw [if_neg (by omega)])
      exact ih
    · have : t (37 + k) = 0 := Decidable.byContradiction fun hx => c (d2.mpr hx)
      rw [if_pos (by omega), Nat.or_zero] at ih
      simp (disch := first | omega | simp only [am_ci, am_cr, am_ca]) only [eX3_shipsAtSea_5, eX3_shipsAtSea_6, eX3_shipsAtSea_9, eX3_shipsAtSea_12, eX3_shipsAtSea_13, eX3_shipsAtSea_14, eX3_shipsAtSea_17, eX3_shipsAtSea_20, eX3_shipsAtSea_21, eX3_shipsAtSea_22, eX3_shipsAtSea_23, eX3_shipsAtSea_24, eX3_shipsAtSea_25, eX3_shipsAtSea_26, eX3_shipsAtSea_29, am_bi, Int.reduceEq, Int.reduceLT, Int.reduceLE, Int.reduceToNat, ite_self, Decidable.not_not, not_true_eq_false, not_false_eq_true, ↓reduceIte, am_ci, am_cr, am_ca, am_b0, am_b1, am_ts, am_tn, am_then_some, List.cons_append, List.nil_append, ne_eq, iI_lit, iI_add, iI_sub, iI_mul, iI_neg, iI_lt, iI_le, iI_eq, iI_in, iI_clz, dI_ap, dI_wr, setR_s, wE_R, setR_2, setR_n, setR_o, updI_s, updI_n, updI_2, tl_0, tl_1, tl_2, tl_3, tl_4, tl_5, tl_6, tl_7, tl_8, tl_9, tl_10, tl_11, tl_12, tl_13, tl_14, tl_15, tl_16, tn_3, tn_5, tn_13, tn_21, tn_29, tn_33, tn_37, tn_41, tn_45, tn_49, tn_53, tn_57, tn_61, tn_40, tn_p, tn_0, true_and, and_true, sk_0, sk_1, sk_2, sl_2, sk_3, sl_3, sk_4, sl_4, sk_5, sl_5, sk_6, sl_6, sk_7, sl_7, sk_8, sl_8, sk_9, sl_9, sk_10, sl_10, sk_11, sl_11, sk_12, sl_12, sk_13, sk_14, sl_14, sk_15, sk_40, sk_41, sl_41, sk_330, sl_330, sk_355, sk_356, sl_356, sk_357, sl_357, sk_358, sl_358, sk_359, sl_359, sk_360, sl_360, sk_361, sk_362, sl_362, sk_363, sk_376, sk_377, sl_377, sk_378, sk_379, sl_379, sk_380, sl_380, sk_381, sl_381, sk_382, sl_382, sk_383, sl_383, sk_384, sl_384, sk_385, sl_385, sk_386, sl_386, sk_387, sl_387, sk_388, sl_388, sk_389, sl_389, sk_390, sl_390, sk_391, sl_391, sk_392, sl_392, sk_393, sl_393, sk_394, sl_394, sr_0_0, sr_0_1, sr_0_2, sr_0_3, sr_0_4, sr_0_5, sr_0_6, sr_0_7, sr_0_8, sr_0_9, sr_1_0, sr_1_1, sr_1_2, sr_13_0, sr_15_0, sr_15_2, sr_40_0, sr_355_0, sr_355_1, sr_355_2, sr_355_3, sr_355_4, sr_355_5, sr_361_2, sr_361_5, sr_361_6, sr_363_0, sr_363_1, sr_376_0, sr_376_2, sr_378_0, sr_378_1, sr_378_2, sr_378_4, sr_378_8, sr_378_10, sr_378_11, sr_378_12, sr_378_14, sr_378_20, sr_378_21, sr_378_22, sr_378_23, sr_378_24, sr_378_25, sr_378_26, am_vs, h.k, e2, H1, c]
      repeat (first | rw [if_pos (by omega)] | rw [if_neg (by omega)])
      exact ih
  · rw [eX3_shipsAtSea_4]
    simp (disch := first | omega | simp only [am_ci, am_cr, am_ca]) only [eX3_shipsAtSea_5, eX3_shipsAtSea_6, eX3_shipsAtSea_9, eX3_shipsAtSea_12, eX3_shipsAtSea_13, eX3_shipsAtSea_14, eX3_shipsAtSea_17, eX3_shipsAtSea_20, eX3_shipsAtSea_21, eX3_shipsAtSea_22, eX3_shipsAtSea_23, eX3_shipsAtSea_24, eX3_shipsAtSea_25, eX3_shipsAtSea_26, eX3_shipsAtSea_29, eX3_shipsAtSea_32, eX3_shipsAtSea_33, am_bi, Int.reduceEq, Int.reduceLT, Int.reduceLE, Int.reduceToNat, ite_self, Decidable.not_not, not_true_eq_false, not_false_eq_true, ↓reduceIte, am_ci, am_cr, am_ca, am_b0, am_b1, am_ts, am_tn, am_then_some, List.cons_append, List.nil_append, ne_eq, iI_lit, iI_add, iI_sub, iI_mul, iI_neg, iI_lt, iI_le, iI_eq, iI_in, iI_clz, dI_ap, dI_wr, setR_s, wE_R, setR_2, setR_n, setR_o, updI_s, updI_n, updI_2, tl_0, tl_1, tl_2, tl_3, tl_4, tl_5, tl_6, tl_7, tl_8, tl_9, tl_10, tl_11, tl_12, tl_13, tl_14, tl_15, tl_16, tn_3, tn_5, tn_13, tn_21, tn_29, tn_33, tn_37, tn_41, tn_45, tn_49, tn_53, tn_57, tn_61, tn_40, tn_p, tn_0, true_and, and_true, sk_0, sk_1, sk_2, sl_2, sk_3, sl_3, sk_4, sl_4, sk_5, sl_5, sk_6, sl_6, sk_7, sl_7, sk_8, sl_8, sk_9, sl_9, sk_10, sl_10, sk_11, sl_11, sk_12, sl_12, sk_13, sk_14, sl_14, sk_15, sk_40, sk_41, sl_41, sk_330, sl_330, sk_355, sk_356, sl_356, sk_357, sl_357, sk_358, sl_358, sk_359, sl_359, sk_360, sl_360, sk_361, sk_362, sl_362, sk_363, sk_376, sk_377, sl_377, sk_378, sk_379, sl_379, sk_380, sl_380, sk_381, sl_381, sk_382, sl_382, sk_383, sl_383, sk_384, sl_384, sk_385, sl_385, sk_386, sl_386, sk_387, sl_387, sk_388, sl_388, sk_389, sl_389, sk_390, sl_390, sk_391, sl_391, sk_392, sl_392, sk_393, sl_393, sk_394, sl_394, sr_0_0, sr_0_1, sr_0_2, sr_0_3, sr_0_4, sr_0_5, sr_0_6, sr_0_7, sr_0_8, sr_0_9, sr_1_0, sr_1_1, sr_1_2, sr_13_0, sr_15_0, sr_15_2, sr_40_0, sr_355_0, sr_355_1, sr_355_2, sr_355_3, sr_355_4, sr_355_5, sr_361_2, sr_361_5, sr_361_6, sr_363_0, sr_363_1, sr_376_0, sr_376_2, sr_378_0, sr_378_1, sr_378_2, sr_378_4, sr_378_8, sr_378_10, sr_378_11, sr_378_12, sr_378_14, sr_378_20, sr_378_21, sr_378_22, sr_378_23, sr_378_24, sr_378_25, sr_378_26, am_vs, h.k, e2]
    all_goals ((repeat' split) <;> first | rfl | trivial | (exfalso; omega))
theorem c_shipsIn {d a : Nat} {p : Int} {E : Nat → Nat → Int} {t : Nat → Int} (h : am_lg a) (hR : RL0 E a t) (hb : bT t) (hd : RD E a t) (hp : i32 p) : am_sem (d + 2) 52 [.ref a, .int (iI p)] am_S0 (dI E) = some (some (.int (iI (spT t p (t 2).toNat))), am_S0, dI E) := by
  have a2 := hb.2.2.2.1
  have t3 := hb.2.2.2.2.1
  obtain ⟨K, hK⟩ := Int.eq_ofNat_of_zero_le a2.1
  rw [hK, show ((K : Int)).toNat = K from rfl]
  have e2 : E a 2 = (K : Int) := by rw [hR.1.2.2.1, hK]
  have e3 : E a 3 = t 3 := hR.1.2.2.2.1
  refine mX3_shipsIn rfl rfl ?_
  simp (disch := first | omega | simp only [am_ci, am_cr, am_ca]) only [eX3_shipsIn_0, eX3_shipsIn_1, eX3_shipsIn_2, eX3_shipsIn_3, am_bi, Int.reduceEq, Int.reduceLT, Int.reduceLE, Int.reduceToNat, ite_self, Decidable.not_not, not_true_eq_false, not_false_eq_true, ↓reduceIte, am_ci, am_cr, am_ca, am_b0, am_b1, am_ts, am_tn, am_then_some, List.cons_append, List.nil_append, ne_eq, iI_lit, iI_add, iI_sub, iI_mul, iI_neg, iI_lt, iI_le, iI_eq, iI_in, iI_clz, dI_ap, dI_wr, setR_s, wE_R, setR_2, setR_n, setR_o, updI_s, updI_n, updI_2, tl_0, tl_1, tl_2, tl_3, tl_4, tl_5, tl_6, tl_7, tl_8, tl_9, tl_10, tl_11, tl_12, tl_13, tl_14, tl_15, tl_16, tn_3, tn_5, tn_13, tn_21, tn_29, tn_33, tn_37, tn_41, tn_45, tn_49, tn_53, tn_57, tn_61, tn_40, tn_p, tn_0, true_and, and_true, sk_0, sk_1, sk_2, sl_2, sk_3, sl_3, sk_4, sl_4, sk_5, sl_5, sk_6, sl_6, sk_7, sl_7, sk_8, sl_8, sk_9, sl_9, sk_10, sl_10, sk_11, sl_11, sk_12, sl_12, sk_13, sk_14, sl_14, sk_15, sk_40, sk_41, sl_41, sk_330, sl_330, sk_355, sk_356, sl_356, sk_357, sl_357, sk_358, sl_358, sk_359, sl_359, sk_360, sl_360, sk_361, sk_362, sl_362, sk_363, sk_376, sk_377, sl_377, sk_378, sk_379, sl_379, sk_380, sl_380, sk_381, sl_381, sk_382, sl_382, sk_383, sl_383, sk_384, sl_384, sk_385, sl_385, sk_386, sl_386, sk_387, sl_387, sk_388, sl_388, sk_389, sl_389, sk_390, sl_390, sk_391, sl_391, sk_392, sl_392, sk_393, sl_393, sk_394, sl_394, sr_0_0, sr_0_1, sr_0_2, sr_0_3, sr_0_4, sr_0_5, sr_0_6, sr_0_7, sr_0_8, sr_0_9, sr_1_0, sr_1_1, sr_1_2, sr_13_0, sr_15_0, sr_15_2, sr_40_0, sr_355_0, sr_355_1, sr_355_2, sr_355_3, sr_355_4, sr_355_5, sr_361_2, sr_361_5, sr_361_6, sr_363_0, sr_363_1, sr_376_0, sr_376_2, sr_378_0, sr_378_1, sr_378_2, sr_378_4, sr_378_8, sr_378_10, sr_378_11, sr_378_12, sr_378_14, sr_378_20, sr_378_21, sr_378_22, sr_378_23, sr_378_24, sr_378_25, sr_378_26, am_vs]
  refine am_loop (P := fun k => am_ev (am_sem (d + 1)) 3 cX3_shipsIn 4 [.ref a, .int (iI p), .int (iI (spT t p k)), .int (iI k)] [] am_S0 (dI E) (some (.int (iI (spT t p K))), am_S0, dI E)) (n := K) ?_ ?_ (k := 0) (by omega)
  · intro k hk ih
    obtain ⟨d1, d2⟩ := RDs_of hd hb k (by omega) (by omega)
    have bd := (hb.2.2.2.2.2.2.2.1 k (by omega)).2.1
    have s5 := (hR.2.2.1 k (by omega) (by omega)).2.1
    have H1 := c_isAtSea (d := d) (E := E) (s := k) h (by omega) (by omega) (by omega)
    rw [e3] at H1
    rw [spT_s] at ih
    rw [eX3_shipsIn_4]
    by_cases c0 : t (33 + k) = p
    · by_cases c : t 3 < E (a + 6) k
      · have := d2.mp c
        rw [if_neg (by omega), Nat.or_zero] at ih
        simp (disch := first | omega | simp only [am_ci, am_cr, am_ca]) only [eX3_shipsIn_5, eX3_shipsIn_6, eX3_shipsIn_9, eX3_shipsIn_12, eX3_shipsIn_13, eX3_shipsIn_16, eX3_shipsIn_17, eX3_shipsIn_18, eX3_shipsIn_19, eX3_shipsIn_22, eX3_shipsIn_23, eX3_shipsIn_24, eX3_shipsIn_27, eX3_shipsIn_30, eX3_shipsIn_31, eX3_shipsIn_32, eX3_shipsIn_33, eX3_shipsIn_34, eX3_shipsIn_35, eX3_shipsIn_36, eX3_shipsIn_39, am_bi, Int.reduceEq, Int.reduceLT, Int.reduceLE, Int.reduceToNat, ite_self, Decidable.not_not, not_true_eq_false, not_false_eq_true, ↓reduceIte, am_ci, am_cr, am_ca, am_b0, am_b1, am_ts, am_tn, am_then_some, List.cons_append, List.nil_append, ne_eq, iI_lit, iI_add, iI_sub, iI_mul, iI_neg, iI_lt, iI_le, iI_eq, iI_in, iI_clz, dI_ap, dI_wr, setR_s, wE_R, setR_2, setR_n, setR_o, updI_s, updI_n, updI_2, tl_0, tl_1, tl_2, tl_3, tl_4, tl_5, tl_6, tl_7, tl_8, tl_9, tl_10, tl_11, tl_12, tl_13, tl_14, tl_15, tl_16, tn_3, tn_5, tn_13, tn_21, tn_29, tn_33, tn_37, tn_41, tn_45, tn_49, tn_53, tn_57, tn_61, tn_40, tn_p, tn_0, true_and, and_true, sk_0, sk_1, sk_2, sl_2, sk_3, sl_3, sk_4, sl_4, sk_5, sl_5, sk_6, sl_6, sk_7, sl_7, sk_8, sl_8, sk_9, sl_9, sk_10, sl_10, sk_11, sl_11, sk_12, sl_12, sk_13, sk_14, sl_14, sk_15, sk_40, sk_41, sl_41, sk_330, sl_330, sk_355, sk_356, sl_356, sk_357, sl_357, sk_358, sl_358, sk_359, sl_359, sk_360, sl_360, sk_361, sk_362, sl_362, sk_363, sk_376, sk_377, sl_377, sk_378, sk_379, sl_379, sk_380, sl_380, sk_381, sl_381, sk_382, sl_382, sk_383, sl_383, sk_384, sl_384, sk_385, sl_385, sk_386, sl_386, sk_387, sl_387, sk_388, sl_388, sk_389, sl_389, sk_390, sl_390, sk_391, sl_391, sk_392, sl_392, sk_393, sl_393, sk_394, sl_394, sr_0_0, sr_0_1, sr_0_2, sr_0_3, sr_0_4, sr_0_5, sr_0_6, sr_0_7, sr_0_8, sr_0_9, sr_1_0, sr_1_1, sr_1_2, sr_13_0, sr_15_0, sr_15_2, sr_40_0, sr_355_0, sr_355_1, sr_355_2, sr_355_3, sr_355_4, sr_355_5, sr_361_2, sr_361_5, sr_361_6, sr_363_0, sr_363_1, sr_376_0, sr_376_2, sr_378_0, sr_378_1, sr_378_2, sr_378_4, sr_378_8, sr_378_10, sr_378_11, sr_378_12, sr_378_14, sr_378_20, sr_378_21, sr_378_22, sr_378_23, sr_378_24, sr_378_25, sr_378_26, am_vs, h.k, h.k5, h.r5, h.l5, e2, s5, H1, c]
        repeat (first | rw [if_pos (by omega)] | rw [if_neg (by omega)])
        exact ih
      · have : t (37 + k) = 0 := Decidable.byContradiction fun hx => c (d2.mpr hx)
        rw [if_pos ⟨this, c0⟩] at ih
        simp (disch := first | omega | simp only [am_ci, am_cr, am_ca]) only [eX3_shipsIn_5, eX3_shipsIn_6, eX3_shipsIn_9, eX3_shipsIn_12, eX3_shipsIn_13, eX3_shipsIn_16, eX3_shipsIn_17, eX3_shipsIn_18, eX3_shipsIn_19, eX3_shipsIn_22, eX3_shipsIn_23, eX3_shipsIn_24, eX3_shipsIn_27, eX3_shipsIn_30, eX3_shipsIn_31, eX3_shipsIn_32, eX3_shipsIn_33, eX3_shipsIn_34, eX3_shipsIn_35, eX3_shipsIn_36, eX3_shipsIn_39, am_bi, Int.reduceEq, Int.reduceLT, Int.reduceLE, Int.reduceToNat, ite_self, Decidable.not_not, not_true_eq_false, not_false_eq_true, ↓reduceIte, am_ci, am_cr, am_ca, am_b0, am_b1, am_ts, am_tn, am_then_some, List.cons_append, List.nil_append, ne_eq, iI_lit, iI_add, iI_sub, iI_mul, iI_neg, iI_lt, iI_le, iI_eq, iI_in, iI_clz, dI_ap, dI_wr, setR_s, wE_R, setR_2, setR_n, setR_o, updI_s, updI_n, updI_2, tl_0, tl_1, tl_2, tl_3, tl_4, tl_5, tl_6, tl_7, tl_8, tl_9, tl_10, tl_11, tl_12, tl_13, tl_14, tl_15, tl_16, tn_3, tn_5, tn_13, tn_21, tn_29, tn_33, tn_37, tn_41, tn_45, tn_49, tn_53, tn_57, tn_61, tn_40, tn_p, tn_0, true_and, and_true, sk_0, sk_1, sk_2, sl_2, sk_3, sl_3, sk_4, sl_4, sk_5, sl_5, sk_6, sl_6, sk_7, sl_7, sk_8, sl_8, sk_9, sl_9, sk_10, sl_10, sk_11, sl_11, sk_12, sl_12, sk_13, sk_14, sl_14, sk_15, sk_40, sk_41, sl_41, sk_330, sl_330, sk_355, sk_356, sl_356, sk_357, sl_357, sk_358, sl_358, sk_359, sl_359, sk_360, sl_360, sk_361, sk_362, sl_362, sk_363, sk_376, sk_377, sl_377, sk_378, sk_379, sl_379, sk_380, sl_380, sk_381, sl_381, sk_382, sl_382, sk_383, sl_383, sk_384, sl_384, sk_385, sl_385, sk_386, sl_386, sk_387, sl_387, sk_388, sl_388, sk_389, sl_389, sk_390, sl_390, sk_391, sl_391, sk_392, sl_392, sk_393, sl_393, sk_394, sl_394, sr_0_0, sr_0_1, sr_0_2, sr_0_3, sr_0_4, sr_0_5, sr_0_6, sr_0_7, sr_0_8, sr_0_9, sr_1_0, sr_1_1, sr_1_2, sr_13_0, sr_15_0, sr_15_2, sr_40_0, sr_355_0, sr_355_1, sr_355_2, sr_355_3, sr_355_4, sr_355_5, sr_361_2, sr_361_5, sr_361_6, sr_363_0, sr_363_1, sr_376_0, sr_376_2, sr_378_0, sr_378_1, sr_378_2, sr_378_4, sr_378_8, sr_378_10, sr_378_11, sr_378_12, sr_378_14, sr_378_20, sr_378_21, sr_378_22, sr_378_23, sr_378_24, sr_378_25, sr_378_26, am_vs, h.k, h.k5, h.r5, h.l5, e2, s5, H1, c, iI_shl, iI_or]
        repeat (first | rw [if_pos (by omega)] | rw [if_neg (by omega)])
        exact ih
    · rw [if_neg (fun hx => c0 hx.2), Nat.or_zero] at ih
      simp (disch := first | omega | simp only [am_ci, am_cr, am_ca]) only [eX3_shipsIn_5, eX3_shipsIn_6, eX3_shipsIn_9, eX3_shipsIn_12, eX3_shipsIn_13, eX3_shipsIn_16, eX3_shipsIn_17, eX3_shipsIn_18, eX3_shipsIn_19, eX3_shipsIn_22, eX3_shipsIn_23, eX3_shipsIn_24, eX3_shipsIn_27, eX3_shipsIn_30, eX3_shipsIn_31, eX3_shipsIn_32, eX3_shipsIn_33, eX3_shipsIn_34, eX3_shipsIn_35, eX3_shipsIn_36, eX3_shipsIn_39, am_bi, Int.reduceEq, Int.reduceLT, Int.reduceLE, Int.reduceToNat, ite_self, Decidable.not_not, not_true_eq_false, not_false_eq_true, ↓reduceIte, am_ci, am_cr, am_ca, am_b0, am_b1, am_ts, am_tn, am_then_some, List.cons_append, List.nil_append, ne_eq, iI_lit, iI_add, iI_sub, iI_mul, iI_neg, iI_lt, iI_le, iI_eq, iI_in, iI_clz, dI_ap, dI_wr, setR_s, wE_R, setR_2, setR_n, setR_o, updI_s, updI_n, updI_2, tl_0, tl_1, tl_2, tl_3, tl_4, tl_5, tl_6, tl_7, tl_8, tl_9, tl_10, tl_11, tl_12, tl_13, tl_14, tl_15, tl_16, tn_3, tn_5, tn_13, tn_21, tn_29, tn_33, tn_37, tn_41, tn_45, tn_49, tn_53, tn_57, tn_61, tn_40, tn_p, tn_0, true_and, and_true, sk_0, sk_1, sk_2, sl_2, sk_3, sl_3, sk_4, sl_4, sk_5, sl_5, sk_6, sl_6, sk_7, sl_7, sk_8, sl_8, sk_9, sl_9, sk_10, sl_10, sk_11, sl_11, sk_12, sl_12, sk_13, sk_14, sl_14, sk_15, sk_40, sk_41, sl_41, sk_330, sl_330, sk_355, sk_356, sl_356, sk_357, sl_357, sk_358, sl_358, sk_359, sl_359, sk_360, sl_360, sk_361, sk_362, sl_362, sk_363, sk_376, sk_377, sl_377, sk_378, sk_379, sl_379, sk_380, sl_380, sk_381, sl_381, sk_382, sl_382, sk_383, sl_383, sk_384, sl_384, sk_385, sl_385, sk_386, sl_386, sk_387, sl_387, sk_388, sl_388, sk_389, sl_389, sk_390, sl_390, sk_391, sl_391, sk_392, sl_392, sk_393, sl_393, sk_394, sl_394, sr_0_0, sr_0_1, sr_0_2, sr_0_3, sr_0_4, sr_0_5, sr_0_6, sr_0_7, sr_0_8, sr_0_9, sr_1_0, sr_1_1, sr_1_2, sr_13_0, sr_15_0, sr_15_2, sr_40_0, sr_355_0, sr_355_1, sr_355_2, sr_355_3, sr_355_4, sr_355_5, sr_361_2, sr_361_5, sr_361_6, sr_363_0, sr_363_1, sr_376_0, sr_376_2, sr_378_0, sr_378_1, sr_378_2, sr_378_4, sr_378_8, sr_378_10, sr_378_11, sr_378_12, sr_378_14, sr_378_20, sr_378_21, sr_378_22, sr_378_23, sr_378_24, sr_378_25, sr_378_26, am_vs, h.k, h.k5, h.r5, h.l5, e2, s5]
      repeat (first | rw [if_pos (by omega)] | rw [if_neg (by omega)])
      exact ih
  · rw [eX3_shipsIn_4]
    simp (disch := first | omega | simp only [am_ci, am_cr, am_ca]) only [eX3_shipsIn_5, eX3_shipsIn_6, eX3_shipsIn_9, eX3_shipsIn_12, eX3_shipsIn_13, eX3_shipsIn_16, eX3_shipsIn_17, eX3_shipsIn_18, eX3_shipsIn_19, eX3_shipsIn_22, eX3_shipsIn_23, eX3_shipsIn_24, eX3_shipsIn_27, eX3_shipsIn_30, eX3_shipsIn_31, eX3_shipsIn_32, eX3_shipsIn_33, eX3_shipsIn_34, eX3_shipsIn_35, eX3_shipsIn_36, eX3_shipsIn_39, eX3_shipsIn_42, eX3_shipsIn_43, am_bi, Int.reduceEq, Int.reduceLT, Int.reduceLE, Int.reduceToNat, ite_self, Decidable.not_not, not_true_eq_false, not_false_eq_true, ↓reduceIte, am_ci, am_cr, am_ca, am_b0, am_b1, am_ts, am_tn, am_then_some, List.cons_append, List.nil_append, ne_eq, iI_lit, iI_add, iI_sub, iI_mul, iI_neg, iI_lt, iI_le, iI_eq, iI_in, iI_clz, dI_ap, dI_wr, setR_s, wE_R, setR_2, setR_n, setR_o, updI_s, updI_n, updI_2, tl_0, tl_1, tl_2, tl_3, tl_4, tl_5, tl_6, tl_7, tl_8, tl_9, tl_10, tl_11, tl_12, tl_13, tl_14, tl_15, tl_16, tn_3, tn_5, tn_13, tn_21, tn_29, tn_33, tn_37, tn_41, tn_45, tn_49, tn_53, tn_57, tn_61, tn_40, tn_p, tn_0, true_and, and_true, sk_0, sk_1, sk_2, sl_2, sk_3, sl_3, sk_4, sl_4, sk_5, sl_5, sk_6, sl_6, sk_7, sl_7, sk_8, sl_8, sk_9, sl_9, sk_10, sl_10, sk_11, sl_11, sk_12, sl_12, sk_13, sk_14, sl_14, sk_15, sk_40, sk_41, sl_41, sk_330, sl_330, sk_355, sk_356, sl_356, sk_357, sl_357, sk_358, sl_358, sk_359, sl_359, sk_360, sl_360, sk_361, sk_362, sl_362, sk_363, sk_376, sk_377, sl_377, sk_378, sk_379, sl_379, sk_380, sl_380, sk_381, sl_381, sk_382, sl_382, sk_383, sl_383, sk_384, sl_384, sk_385, sl_385, sk_386, sl_386, sk_387, sl_387, sk_388, sl_388, sk_389, sl_389, sk_390, sl_390, sk_391, sl_391, sk_392, sl_392, sk_393, sl_393, sk_394, sl_394, sr_0_0, sr_0_1, sr_0_2, sr_0_3, sr_0_4, sr_0_5, sr_0_6, sr_0_7, sr_0_8, sr_0_9, sr_1_0, sr_1_1, sr_1_2, sr_13_0, sr_15_0, sr_15_2, sr_40_0, sr_355_0, sr_355_1, sr_355_2, sr_355_3, sr_355_4, sr_355_5, sr_361_2, sr_361_5, sr_361_6, sr_363_0, sr_363_1, sr_376_0, sr_376_2, sr_378_0, sr_378_1, sr_378_2, sr_378_4, sr_378_8, sr_378_10, sr_378_11, sr_378_12, sr_378_14, sr_378_20, sr_378_21, sr_378_22, sr_378_23, sr_378_24, sr_378_25, sr_378_26, am_vs, h.k, e2]
    all_goals ((repeat' split) <;> first | rfl | trivial | (exfalso; omega))
theorem c_canLeave {d a s w : Nat} {E : Nat → Nat → Int} {t : Nat → Int} (h : am_lg a) (hR : RL0 E a t) (hb : bT t) (hd : RD E a t) (hs : s < 4) (hs2 : (s : Int) < t 2) (hw : w < 8) (hw2 : (w : Int) < t 1) : am_sem (d + 2) 44 [.ref a, .int (iI s), .int (iI w)] am_S0 (dI E) = some (some (.int (if 0 ≤ enT t s w then 1 else 0)), am_S0, dI E) := by
  have t3 := hb.2.2.2.2.1
  have e3 : E a 3 = t 3 := hR.1.2.2.2.1
  obtain ⟨d1, d2⟩ := RDs_of hd hb s hs hs2
  obtain ⟨-, s5, -, -⟩ := hR.2.2.1 s hs hs2
  obtain ⟨w1, w2, -⟩ := hR.2.1 w hw hw2
  have bs := hb.2.2.2.2.2.2.2.1 s hs
  have bw := hb.2.2.2.2.2.2.1 w hw
  have H1 := c_isAtSea (d := d) (E := E) (s := s) h hs (by omega) (by omega)
  rw [e3] at H1
  refine mX3_canLeave rfl rfl am_bb ?_
  unfold enT
  by_cases c : t 3 < E (a + 6) s
  · have := d2.mp c
    rw [if_pos (show 0 < t (37 + s) by omega)]
    simp (disch := first | omega | simp only [am_ci, am_cr, am_ca]) only [eX3_canLeave_0, eX3_canLeave_1, eX3_canLeave_2, eX3_canLeave_5, eX3_canLeave_8, eX3_canLeave_9, eX3_canLeave_12, eX3_canLeave_13, eX3_canLeave_14, eX3_canLeave_15, eX3_canLeave_18, eX3_canLeave_19, eX3_canLeave_20, eX3_canLeave_23, eX3_canLeave_24, eX3_canLeave_27, eX3_canLeave_28, eX3_canLeave_29, eX3_canLeave_30, eX3_canLeave_33, eX3_canLeave_34, eX3_canLeave_35, eX3_canLeave_38, eX3_canLeave_39, eX3_canLeave_42, eX3_canLeave_43, am_bi, Int.reduceEq, Int.reduceLT, Int.reduceLE, Int.reduceToNat, ite_self, Decidable.not_not, not_true_eq_false, not_false_eq_true, ↓reduceIte, am_ci, am_cr, am_ca, am_b0, am_b1, am_ts, am_tn, am_then_some, List.cons_append, List.nil_append, ne_eq, iI_lit, iI_add, iI_sub, iI_mul, iI_neg, iI_lt, iI_le, iI_eq, iI_in, iI_clz, dI_ap, dI_wr, setR_s, wE_R, setR_2, setR_n, setR_o, updI_s, updI_n, updI_2, tl_0, tl_1, tl_2, tl_3, tl_4, tl_5, tl_6, tl_7, tl_8, tl_9, tl_10, tl_11, tl_12, tl_13, tl_14, tl_15, tl_16, tn_3, tn_5, tn_13, tn_21, tn_29, tn_33, tn_37, tn_41, tn_45, tn_49, tn_53, tn_57, tn_61, tn_40, tn_p, tn_0, true_and, and_true, sk_0, sk_1, sk_2, sl_2, sk_3, sl_3, sk_4, sl_4, sk_5, sl_5, sk_6, sl_6, sk_7, sl_7, sk_8, sl_8, sk_9, sl_9, sk_10, sl_10, sk_11, sl_11, sk_12, sl_12, sk_13, sk_14, sl_14, sk_15, sk_40, sk_41, sl_41, sk_330, sl_330, sk_355, sk_356, sl_356, sk_357, sl_357, sk_358, sl_358, sk_359, sl_359, sk_360, sl_360, sk_361, sk_362, sl_362, sk_363, sk_376, sk_377, sl_377, sk_378, sk_379, sl_379, sk_380, sl_380, sk_381, sl_381, sk_382, sl_382, sk_383, sl_383, sk_384, sl_384, sk_385, sl_385, sk_386, sl_386, sk_387, sl_387, sk_388, sl_388, sk_389, sl_389, sk_390, sl_390, sk_391, sl_391, sk_392, sl_392, sk_393, sl_393, sk_394, sl_394, sr_0_0, sr_0_1, sr_0_2, sr_0_3, sr_0_4, sr_0_5, sr_0_6, sr_0_7, sr_0_8, sr_0_9, sr_1_0, sr_1_1, sr_1_2, sr_13_0, sr_15_0, sr_15_2, sr_40_0, sr_355_0, sr_355_1, sr_355_2, sr_355_3, sr_355_4, sr_355_5, sr_361_2, sr_361_5, sr_361_6, sr_363_0, sr_363_1, sr_376_0, sr_376_2, sr_378_0, sr_378_1, sr_378_2, sr_378_4, sr_378_8, sr_378_10, sr_378_11, sr_378_12, sr_378_14, sr_378_20, sr_378_21, sr_378_22, sr_378_23, sr_378_24, sr_378_25, sr_378_26, am_vs, h.k, H1, c]
    all_goals ((repeat' split) <;> first | rfl | trivial | (exfalso; omega))
  · have : t (37 + s) = 0 := Decidable.byContradiction fun hx => c (d2.mpr hx)
    rw [if_neg (show ¬ 0 < t (37 + s) by omega)]
    simp (disch := first | omega | simp only [am_ci, am_cr, am_ca]) only [eX3_canLeave_0, eX3_canLeave_1, eX3_canLeave_2, eX3_canLeave_5, eX3_canLeave_8, eX3_canLeave_9, eX3_canLeave_12, eX3_canLeave_13, eX3_canLeave_14, eX3_canLeave_15, eX3_canLeave_18, eX3_canLeave_19, eX3_canLeave_20, eX3_canLeave_23, eX3_canLeave_24, eX3_canLeave_27, eX3_canLeave_28, eX3_canLeave_29, eX3_canLeave_30, eX3_canLeave_33, eX3_canLeave_34, eX3_canLeave_35, eX3_canLeave_38, eX3_canLeave_39, eX3_canLeave_42, eX3_canLeave_43, am_bi, Int.reduceEq, Int.reduceLT, Int.reduceLE, Int.reduceToNat, ite_self, Decidable.not_not, not_true_eq_false, not_false_eq_true, ↓reduceIte, am_ci, am_cr, am_ca, am_b0, am_b1, am_ts, am_tn, am_then_some, List.cons_append, List.nil_append, ne_eq, iI_lit, iI_add, iI_sub, iI_mul, iI_neg, iI_lt, iI_le, iI_eq, iI_in, iI_clz, dI_ap, dI_wr, setR_s, wE_R, setR_2, setR_n, setR_o, updI_s, updI_n, updI_2, tl_0, tl_1, tl_2, tl_3, tl_4, tl_5, tl_6, tl_7, tl_8, tl_9, tl_10, tl_11, tl_12, tl_13, tl_14, tl_15, tl_16, tn_3, tn_5, tn_13, tn_21, tn_29, tn_33, tn_37, tn_41, tn_45, tn_49, tn_53, tn_57, tn_61, tn_40, tn_p, tn_0, true_and, and_true, sk_0, sk_1, sk_2, sl_2, sk_3, sl_3, sk_4, sl_4, sk_5, sl_5, sk_6, sl_6, sk_7, sl_7, sk_8, sl_8, sk_9, sl_9, sk_10, sl_10, sk_11, sl_11, sk_12, sl_12, sk_13, sk_14, sl_14, sk_15, sk_40, sk_41, sl_41, sk_330, sl_330, sk_355, sk_356, sl_356, sk_357, sl_357, sk_358, sl_358, sk_359, sl_359, sk_360, sl_360, sk_361, sk_362, sl_362, sk_363, sk_376, sk_377, sl_377, sk_378, sk_379, sl_379, sk_380, sl_380, sk_381, sl_381, sk_382, sl_382, sk_383, sl_383, sk_384, sl_384, sk_385, sl_385, sk_386, sl_386, sk_387, sl_387, sk_388, sl_388, sk_389, sl_389, sk_390, sl_390, sk_391, sl_391, sk_392, sl_392, sk_393, sl_393, sk_394, sl_394, sr_0_0, sr_0_1, sr_0_2, sr_0_3, sr_0_4, sr_0_5, sr_0_6, sr_0_7, sr_0_8, sr_0_9, sr_1_0, sr_1_1, sr_1_2, sr_13_0, sr_15_0, sr_15_2, sr_40_0, sr_355_0, sr_355_1, sr_355_2, sr_355_3, sr_355_4, sr_355_5, sr_361_2, sr_361_5, sr_361_6, sr_363_0, sr_363_1, sr_376_0, sr_376_2, sr_378_0, sr_378_1, sr_378_2, sr_378_4, sr_378_8, sr_378_10, sr_378_11, sr_378_12, sr_378_14, sr_378_20, sr_378_21, sr_378_22, sr_378_23, sr_378_24, sr_378_25, sr_378_26, am_vs, h.k, h.k5, h.r5, h.l5, h.k1, h.r1, h.l1, h.k2, h.r2, h.l2, H1, c, s5, w1, w2]
    all_goals ((repeat' split) <;> first | rfl | trivial | (exfalso; omega))
theorem RL0_be {E : Nat → Nat → Int} {a : Nat} {t : Nat → Int} (h : RL0 E a t) {k : Nat} (hk : k < 4) {z : Int} : RL0 (setR E (a + 5) (updI (E (a + 5)) k z)) a (updI t (33 + k) z) := by
  obtain ⟨h0, h1, h2, h3, h4⟩ := h
  refine ⟨?_, fun w hw hw2 => ?_, fun s hs hs2 => ?_, fun n hn hn2 => ?_, fun i hi => ?_⟩
  · simp (disch := omega) only [setR_n, updI_n]; exact h0
  · simp (disch := omega) only [setR_n, updI_n] at hw2 ⊢; exact h1 w hw hw2
  · simp (disch := omega) only [setR_n, setR_s, updI_n] at hs2 ⊢
    have := h2 s hs hs2
    refine ⟨this.1, ?_, this.2.2.1, this.2.2.2⟩
    by_cases e : s = k
    · subst e; rw [updI_s, updI_s]
    · rw [updI_n e, updI_n (by omega)]; exact this.2.1
  · simp (disch := omega) only [setR_n, updI_n] at hn2 ⊢; exact h3 n hn hn2
  · simp (disch := omega) only [setR_n, updI_n]; exact h4 i hi
/-- the row of arrivals alone -/
theorem RL0_6 {E : Nat → Nat → Int} {a : Nat} {t : Nat → Int} (h : RL0 E a t) (g : Nat → Int) : RL0 (setR E (a + 6) g) a t := by
  obtain ⟨h0, h1, h2, h3, h4⟩ := h
  refine ⟨?_, fun w hw hw2 => ?_, fun s hs hs2 => ?_, fun n hn hn2 => ?_, fun i hi => ?_⟩
  · simp (disch := omega) only [setR_n]; exact h0
  · simp (disch := omega) only [setR_n]; exact h1 w hw hw2
  · simp (disch := omega) only [setR_n]; exact h2 s hs hs2
  · simp (disch := omega) only [setR_n]; exact h3 n hn hn2
  · simp (disch := omega) only [setR_n]; exact h4 i hi
theorem tkT_1 {t : Nat → Int} {s w : Nat} (h : 1 ≤ t (21 + w)) : 1 ≤ tkT t s w := by
  unfold tkT
  (repeat' split) <;> omega
theorem c_leave {d a s w : Nat} {E : Nat → Nat → Int} {t : Nat → Int} (h : am_lg a) (hR : RL0 E a t) (hb : bT t) (hd : RD E a t) (hs : s < 4) (hs2 : (s : Int) < t 2) (hw : w < 8) (hw2 : (w : Int) < t 1) (h1 : w1T t) (hkd : 1 ≤ t (29 + s)) (he : 0 ≤ enT t s w) : ∃ E', (RL0 E' a (saT t s w) ∧ RD E' a (saT t s w) ∧ frL E E' a ∧ E' (a + 6) s = t 3 + tkT t s w) ∧ am_sem (d + 2) 45 [.ref a, .int (iI s), .int (iI w)] am_S0 (dI E) = some (none, am_S0, dI E') := by
  have t3 := hb.2.2.2.2.1
  have e3 : E a 3 = t 3 := hR.1.2.2.2.1
  obtain ⟨s4, s5, -, -⟩ := hR.2.2.1 s hs hs2
  obtain ⟨w1, w2, w3⟩ := hR.2.1 w hw hw2
  have bs := hb.2.2.2.2.2.2.2.1 s hs
  have bw := hb.2.2.2.2.2.2.1 w hw
  have hT1 := tkT_1 (s := s) (h1 w hw2)
  have hT2 := tkT_b (t := t) (s := s) bw.2.2
  have H2 := c_daysOn (d := d) (E := setR E (a + 5) (updI (E (a + 5)) s (enT t s w))) (w := w) (m := t (29 + s)) h hw (by omega) (by rw [setR_n (by omega)]; omega)
  rw [setR_n (by omega), w3, dy_tk (by omega)] at H2
  have ne6 : a + 5 ≠ a + 6 := by omega
  have hw13 : (if t (5 + w) = t (33 + s) then t (13 + w) else t (5 + w)) = enT t s w := by
    unfold enT at he ⊢
    by_cases c : 0 < t (37 + s)
    · rw [if_pos c] at he; omega
    · rw [if_neg c] at he ⊢
      by_cases c1 : t (5 + w) = t (33 + s)
      · rw [if_pos c1, if_pos c1]
      · rw [if_neg c1] at he ⊢
        rw [if_neg c1]
        by_cases c2 : t (13 + w) = t (33 + s)
        · rw [if_pos c2]
        · rw [if_neg c2] at he; omega
  refine ⟨setR (setR E (a + 5) (updI (E (a + 5)) s (enT t s w))) (a + 6) (updI (E (a + 6)) s (t 3 + tkT t s w)), ⟨?_, ?_, ?_, ?_⟩, mX3_leave rfl rfl ?_⟩
  · unfold saT
    exact RL0_6 (RL0_be (RL0_du hR hs) hs) _
  · intro i hi hi2
    unfold saT at hi2 ⊢
    simp (disch := omega) only [updI_n, setR_s] at hi2 ⊢
    by_cases e : i = s
    · subst e; rw [updI_s, updI_s]; exact Or.inr ⟨rfl, by omega⟩
    · rw [updI_n e, updI_n (by omega)]; exact hd i hi hi2
  · exact frL_s (frL_s (frL_r E a) (by omega) _) (by omega) _
  · rw [setR_s, updI_s]
  · by_cases c : t (5 + w) = t (33 + s)
    · rw [if_pos c] at hw13
      simp (disch := first | omega | simp only [am_ci, am_cr, am_ca]) only [eX3_leave_0, eX3_leave_1, eX3_leave_4, eX3_leave_5, eX3_leave_6, eX3_leave_9, eX3_leave_10, eX3_leave_11, eX3_leave_12, eX3_leave_15, eX3_leave_16, eX3_leave_17, eX3_leave_20, eX3_leave_21, eX3_leave_24, eX3_leave_25, eX3_leave_26, eX3_leave_29, eX3_leave_30, eX3_leave_33, eX3_leave_34, eX3_leave_35, eX3_leave_36, eX3_leave_37, eX3_leave_40, eX3_leave_41, eX3_leave_42, eX3_leave_45, eX3_leave_46, eX3_leave_47, eX3_leave_48, eX3_leave_51, eX3_leave_52, eX3_leave_53, eX3_leave_56, eX3_leave_57, eX3_leave_58, am_bi, Int.reduceEq, Int.reduceLT, Int.reduceLE, Int.reduceToNat, ite_self, Decidable.not_not, not_true_eq_false, not_false_eq_true, ↓reduceIte, am_ci, am_cr, am_ca, am_b0, am_b1, am_ts, am_tn, am_then_some, List.cons_append, List.nil_append, ne_eq, iI_lit, iI_add, iI_sub, iI_mul, iI_neg, iI_lt, iI_le, iI_eq, iI_in, iI_clz, dI_ap, dI_wr, setR_s, wE_R, setR_2, setR_n, setR_o, updI_s, updI_n, updI_2, tl_0, tl_1, tl_2, tl_3, tl_4, tl_5, tl_6, tl_7, tl_8, tl_9, tl_10, tl_11, tl_12, tl_13, tl_14, tl_15, tl_16, tn_3, tn_5, tn_13, tn_21, tn_29, tn_33, tn_37, tn_41, tn_45, tn_49, tn_53, tn_57, tn_61, tn_40, tn_p, tn_0, true_and, and_true, sk_0, sk_1, sk_2, sl_2, sk_3, sl_3, sk_4, sl_4, sk_5, sl_5, sk_6, sl_6, sk_7, sl_7, sk_8, sl_8, sk_9, sl_9, sk_10, sl_10, sk_11, sl_11, sk_12, sl_12, sk_13, sk_14, sl_14, sk_15, sk_40, sk_41, sl_41, sk_330, sl_330, sk_355, sk_356, sl_356, sk_357, sl_357, sk_358, sl_358, sk_359, sl_359, sk_360, sl_360, sk_361, sk_362, sl_362, sk_363, sk_376, sk_377, sl_377, sk_378, sk_379, sl_379, sk_380, sl_380, sk_381, sl_381, sk_382, sl_382, sk_383, sl_383, sk_384, sl_384, sk_385, sl_385, sk_386, sl_386, sk_387, sl_387, sk_388, sl_388, sk_389, sl_389, sk_390, sl_390, sk_391, sl_391, sk_392, sl_392, sk_393, sl_393, sk_394, sl_394, sr_0_0, sr_0_1, sr_0_2, sr_0_3, sr_0_4, sr_0_5, sr_0_6, sr_0_7, sr_0_8, sr_0_9, sr_1_0, sr_1_1, sr_1_2, sr_13_0, sr_15_0, sr_15_2, sr_40_0, sr_355_0, sr_355_1, sr_355_2, sr_355_3, sr_355_4, sr_355_5, sr_361_2, sr_361_5, sr_361_6, sr_363_0, sr_363_1, sr_376_0, sr_376_2, sr_378_0, sr_378_1, sr_378_2, sr_378_4, sr_378_8, sr_378_10, sr_378_11, sr_378_12, sr_378_14, sr_378_20, sr_378_21, sr_378_22, sr_378_23, sr_378_24, sr_378_25, sr_378_26, am_vs, h.k, h.k4, h.r4, h.l4, h.k5, h.r5, h.l5, h.k6, h.r6, h.l6, h.k1, h.r1, h.l1, h.k2, h.r2, h.l2, e3, s4, s5, w1, w2, c, hw13, H2]
    · rw [if_neg c] at hw13
      simp (disch := first | omega | simp only [am_ci, am_cr, am_ca]) only [eX3_leave_0, eX3_leave_1, eX3_leave_4, eX3_leave_5, eX3_leave_6, eX3_leave_9, eX3_leave_10, eX3_leave_11, eX3_leave_12, eX3_leave_15, eX3_leave_16, eX3_leave_17, eX3_leave_20, eX3_leave_21, eX3_leave_24, eX3_leave_25, eX3_leave_26, eX3_leave_29, eX3_leave_30, eX3_leave_33, eX3_leave_34, eX3_leave_35, eX3_leave_36, eX3_leave_37, eX3_leave_40, eX3_leave_41, eX3_leave_42, eX3_leave_45, eX3_leave_46, eX3_leave_47, eX3_leave_48, eX3_leave_51, eX3_leave_52, eX3_leave_53, eX3_leave_56, eX3_leave_57, eX3_leave_58, am_bi, Int.reduceEq, Int.reduceLT, Int.reduceLE, Int.reduceToNat, ite_self, Decidable.not_not, not_true_eq_false, not_false_eq_true, ↓reduceIte, am_ci, am_cr, am_ca, am_b0, am_b1, am_ts, am_tn, am_then_some, List.cons_append, List.nil_append, ne_eq, iI_lit, iI_add, iI_sub, iI_mul, iI_neg, iI_lt, iI_le, iI_eq, iI_in, iI_clz, dI_ap, dI_wr, setR_s, wE_R, setR_2, setR_n, setR_o, updI_s, updI_n, updI_2, tl_0, tl_1, tl_2, tl_3, tl_4, tl_5, tl_6, tl_7, tl_8, tl_9, tl_10, tl_11, tl_12, tl_13, tl_14, tl_15, tl_16, tn_3, tn_5, tn_13, tn_21, tn_29, tn_33, tn_37, tn_41, tn_45, tn_49, tn_53, tn_57, tn_61, tn_40, tn_p, tn_0, true_and, and_true, sk_0, sk_1, sk_2, sl_2, sk_3, sl_3, sk_4, sl_4, sk_5, sl_5, sk_6, sl_6, sk_7, sl_7, sk_8, sl_8, sk_9, sl_9, sk_10, sl_10, sk_11, sl_11, sk_12, sl_12, sk_13, sk_14, sl_14, sk_15, sk_40, sk_41, sl_41, sk_330, sl_330, sk_355, sk_356, sl_356, sk_357, sl_357, sk_358, sl_358, sk_359, sl_359, sk_360, sl_360, sk_361, sk_362, sl_362, sk_363, sk_376, sk_377, sl_377, sk_378, sk_379, sl_379, sk_380, sl_380, sk_381, sl_381, sk_382, sl_382, sk_383, sl_383, sk_384, sl_384, sk_385, sl_385, sk_386, sl_386, sk_387, sl_387, sk_388, sl_388, sk_389, sl_389, sk_390, sl_390, sk_391, sl_391, sk_392, sl_392, sk_393, sl_393, sk_394, sl_394, sr_0_0, sr_0_1, sr_0_2, sr_0_3, sr_0_4, sr_0_5, sr_0_6, sr_0_7, sr_0_8, sr_0_9, sr_1_0, sr_1_1, sr_1_2, sr_13_0, sr_15_0, sr_15_2, sr_40_0, sr_355_0, sr_355_1, sr_355_2, sr_355_3, sr_355_4, sr_355_5, sr_361_2, sr_361_5, sr_361_6, sr_363_0, sr_363_1, sr_376_0, sr_376_2, sr_378_0, sr_378_1, sr_378_2, sr_378_4, sr_378_8, sr_378_10, sr_378_11, sr_378_12, sr_378_14, sr_378_20, sr_378_21, sr_378_22, sr_378_23, sr_378_24, sr_378_25, sr_378_26, am_vs, h.k, h.k4, h.r4, h.l4, h.k5, h.r5, h.l5, h.k6, h.r6, h.l6, h.k1, h.r1, h.l1, h.k2, h.r2, h.l2, e3, s4, s5, w1, w2, c, hw13, H2]
      rw [hw13] at c
      rw [if_pos c]
      trivial
