/-! ===== reader, voyage, asks ===== -/
theorem k16 : am_kd am_S0 16 = 8 ∧ am_ln am_S0 16 = 16 ∧ am_kd am_S0 364 = 8 ∧ am_ln am_S0 364 = 16 := by decide +kernel
theorem rfP_s {R : Nat → Nat → Option Nat} {o k i : Nat} {v : Option Nat} : rfP R o k v o i = if i = k then v else R o i := by
  unfold rfP
  by_cases c : i = k
  · rw [if_pos ⟨rfl, c⟩, if_pos c]
  · rw [if_neg (fun x => c x.2), if_neg c]
theorem rfP_n {R : Nat → Nat → Option Nat} {o k i b : Nat} {v : Option Nat} (h : b ≠ o) : rfP R o k v b i = R b i := by
  unfold rfP; rw [if_neg (fun x => h x.1)]
theorem rfC_s {R : Nat → Nat → Option Nat} {o i : Nat} : rfC R o o i = none := by unfold rfC; rw [if_pos rfl]
theorem rfC_n {R : Nat → Nat → Option Nat} {o i b : Nat} (h : b ≠ o) : rfC R o b i = R b i := by unfold rfC; rw [if_neg h]
theorem i_reader {d sl : Nat} {R : Nat → Nat → Option Nat} (hR : ∀ b, 15 ≤ b → b < 28 → R b = am_rf0 b) : am_sem (d + 2) 55 [.ref 15, .ref 13] (am_Sx 16 sl (rfC R 15)) (dI E0) = some (none, am_Sx 28 (sl + 92) R, dI E0) := by
  have n1 := fun sl R => sx_n (sl := sl) (R := R) k16.1 k16.2.1
  have HL := i_leagueN (d := d) (a := 16) (sl := sl + 16) (R := rfC R 15) am_lg16 (by omega) (fun b h1 h2 => by funext i; rw [rfC_n (by omega), hR b (by omega) (by omega)])
  have e : rfP (rfP (rfC R 15) 15 0 (some 16)) 15 2 (some 13) = R := by
    funext b i
    by_cases c : b = 15
    · subst c
      rw [rfP_s, rfP_s, rfC_s, hR 15 (by omega) (by omega)]
      by_cases c2 : i = 2
      · subst c2; rfl
      · by_cases c3 : i = 0
        · subst c3; rfl
        · rw [if_neg c2, if_neg c3]
          exact (rf0_f (ks := [0, 2]) (by decide +kernel) (by simp [c2, c3])).symm
    · rw [rfP_n c, rfP_n c, rfC_n c]
  refine mX4_init rfl rfl ?_
  simp (disch := first | omega | simp only [am_ci, am_cr, am_ca]) only [eX4_init_0, eX4_init_1, eX4_init_4, eX4_init_5, eX4_init_8, eX4_init_9, eX4_init_12, eX4_init_15, eX4_init_16, eX4_init_17, eX4_init_20, am_bi, Int.reduceEq, Int.reduceLT, Int.reduceLE, Int.reduceToNat, ite_self, Decidable.not_not, not_true_eq_false, not_false_eq_true, ↓reduceIte, am_ci, am_cr, am_ca, am_b0, am_b1, am_ts, am_tn, am_then_some, List.cons_append, List.nil_append, ne_eq, iI_lit, iI_add, iI_sub, iI_mul, iI_neg, iI_lt, iI_le, iI_eq, iI_in, iI_clz, dI_ap, dI_wr, setR_s, wE_R, setR_2, setR_n, setR_o, updI_s, updI_n, updI_2, tl_0, tl_1, tl_2, tl_3, tl_4, tl_5, tl_6, tl_7, tl_8, tl_9, tl_10, tl_11, tl_12, tl_13, tl_14, tl_15, tl_16, tn_3, tn_5, tn_13, tn_21, tn_29, tn_33, tn_37, tn_41, tn_45, tn_49, tn_53, tn_57, tn_61, tn_40, tn_p, tn_0, true_and, and_true, sk_0, sk_1, sk_2, sl_2, sk_3, sl_3, sk_4, sl_4, sk_5, sl_5, sk_6, sl_6, sk_7, sl_7, sk_8, sl_8, sk_9, sl_9, sk_10, sl_10, sk_11, sl_11, sk_12, sl_12, sk_13, sk_14, sl_14, sk_15, sk_40, sk_41, sl_41, sk_330, sl_330, sk_355, sk_356, sl_356, sk_357, sl_357, sk_358, sl_358, sk_359, sl_359, sk_360, sl_360, sk_361, sk_362, sl_362, sk_363, sk_376, sk_377, sl_377, sk_378, sk_379, sl_379, sk_380, sl_380, sk_381, sl_381, sk_382, sl_382, sk_383, sl_383, sk_384, sl_384, sk_385, sl_385, sk_386, sl_386, sk_387, sl_387, sk_388, sl_388, sk_389, sl_389, sk_390, sl_390, sk_391, sl_391, sk_392, sl_392, sk_393, sl_393, sk_394, sl_394, sr_0_0, sr_0_1, sr_0_2, sr_0_3, sr_0_4, sr_0_5, sr_0_6, sr_0_7, sr_0_8, sr_0_9, sr_1_0, sr_1_1, sr_1_2, sr_13_0, sr_15_0, sr_15_2, sr_40_0, sr_355_0, sr_355_1, sr_355_2, sr_355_3, sr_355_4, sr_355_5, sr_361_2, sr_361_5, sr_361_6, sr_363_0, sr_363_1, sr_376_0, sr_376_2, sr_378_0, sr_378_1, sr_378_2, sr_378_4, sr_378_8, sr_378_10, sr_378_11, sr_378_12, sr_378_14, sr_378_20, sr_378_21, sr_378_22, sr_378_23, sr_378_24, sr_378_25, sr_378_26, am_vs, sx_k, sx_x, sx_w, n1, zr_0, am_nf, k16.1, HL, e]
  trivial
theorem i_voyage {d sl : Nat} {R : Nat → Nat → Option Nat} (hR : ∀ b, 363 ≤ b → b < 376 → R b = am_rf0 b) : am_sem (d + 2) 84 [.ref 363, .ref 28] (am_Sx 364 sl (rfC R 363)) (dI E0) = some (none, am_Sx 376 (sl + 92) R, dI E0) := by
  have n1 := fun sl R => sx_n (sl := sl) (R := R) k16.2.2.1 k16.2.2.2
  have HL := i_leagueN (d := d) (a := 364) (sl := sl + 16) (R := rfC R 363) am_lg364 (by omega) (fun b h1 h2 => by funext i; rw [rfC_n (by omega), hR b (by omega) (by omega)])
  have e : rfP (rfP (rfC R 363) 363 1 (some 364)) 363 0 (some 28) = R := by
    funext b i
    by_cases c : b = 363
    · subst c
      rw [rfP_s, rfP_s, rfC_s, hR 363 (by omega) (by omega)]
      by_cases c2 : i = 0
      · subst c2; rfl
      · by_cases c3 : i = 1
        · subst c3; rfl
        · rw [if_neg c2, if_neg c3]
          exact (rf0_f (ks := [0, 1]) (by decide +kernel) (by simp [c2, c3])).symm
    · rw [rfP_n c, rfP_n c, rfC_n c]
  have lk := am_lg28.k
  refine mX8_init rfl rfl ?_
  simp (disch := first | omega | simp only [am_ci, am_cr, am_ca]) only [eX8_init_0, eX8_init_1, eX8_init_4, eX8_init_5, eX8_init_8, eX8_init_9, eX8_init_12, eX8_init_15, eX8_init_16, eX8_init_17, eX8_init_20, am_bi, Int.reduceEq, Int.reduceLT, Int.reduceLE, Int.reduceToNat, ite_self, Decidable.not_not, not_true_eq_false, not_false_eq_true, ↓reduceIte, am_ci, am_cr, am_ca, am_b0, am_b1, am_ts, am_tn, am_then_some, List.cons_append, List.nil_append, ne_eq, iI_lit, iI_add, iI_sub, iI_mul, iI_neg, iI_lt, iI_le, iI_eq, iI_in, iI_clz, dI_ap, dI_wr, setR_s, wE_R, setR_2, setR_n, setR_o, updI_s, updI_n, updI_2, tl_0, tl_1, tl_2, tl_3, tl_4, tl_5, tl_6, tl_7, tl_8, tl_9, tl_10, tl_11, tl_12, tl_13, tl_14, tl_15, tl_16, tn_3, tn_5, tn_13, tn_21, tn_29, tn_33, tn_37, tn_41, tn_45, tn_49, tn_53, tn_57, tn_61, tn_40, tn_p, tn_0, true_and, and_true, sk_0, sk_1, sk_2, sl_2, sk_3, sl_3, sk_4, sl_4, sk_5, sl_5, sk_6, sl_6, sk_7, sl_7, sk_8, sl_8, sk_9, sl_9, sk_10, sl_10, sk_11, sl_11, sk_12, sl_12, sk_13, sk_14, sl_14, sk_15, sk_40, sk_41, sl_41, sk_330, sl_330, sk_355, sk_356, sl_356, sk_357, sl_357, sk_358, sl_358, sk_359, sl_359, sk_360, sl_360, sk_361, sk_362, sl_362, sk_363, sk_376, sk_377, sl_377, sk_378, sk_379, sl_379, sk_380, sl_380, sk_381, sl_381, sk_382, sl_382, sk_383, sl_383, sk_384, sl_384, sk_385, sl_385, sk_386, sl_386, sk_387, sl_387, sk_388, sl_388, sk_389, sl_389, sk_390, sl_390, sk_391, sl_391, sk_392, sl_392, sk_393, sl_393, sk_394, sl_394, sr_0_0, sr_0_1, sr_0_2, sr_0_3, sr_0_4, sr_0_5, sr_0_6, sr_0_7, sr_0_8, sr_0_9, sr_1_0, sr_1_1, sr_1_2, sr_13_0, sr_15_0, sr_15_2, sr_40_0, sr_355_0, sr_355_1, sr_355_2, sr_355_3, sr_355_4, sr_355_5, sr_361_2, sr_361_5, sr_361_6, sr_363_0, sr_363_1, sr_376_0, sr_376_2, sr_378_0, sr_378_1, sr_378_2, sr_378_4, sr_378_8, sr_378_10, sr_378_11, sr_378_12, sr_378_14, sr_378_20, sr_378_21, sr_378_22, sr_378_23, sr_378_24, sr_378_25, sr_378_26, am_vs, sx_k, sx_x, sx_w, n1, zr_0, am_nf, k16.2.2.1, HL, lk, e]
  trivial
theorem i_asks {d sl : Nat} {R : Nat → Nat → Option Nat} (h1 : R 376 = am_rf0 376) (h2 : R 377 = am_rf0 377) : am_sem (d + 1) 4 [.ref 376, .ref 28] (am_Sx 377 sl (rfC R 376)) (dI E0) = some (none, am_Sx 378 (sl + 16) R, dI E0) := by
  have n1 := fun sl R => sx_n (sl := sl) (R := R) sk_377 sl_377
  have e : rfP (rfP (rfC (rfC R 376) 377) 376 0 (some 377)) 376 2 (some 28) = R := by
    funext b i
    by_cases c : b = 376
    · subst c
      rw [rfP_s, rfP_s, rfC_n (by omega), rfC_s, h1]
      by_cases c2 : i = 2
      · subst c2; rfl
      · by_cases c3 : i = 0
        · subst c3; rfl
        · rw [if_neg c2, if_neg c3]
          exact (rf0_f (ks := [0, 2]) (by decide +kernel) (by simp [c2, c3])).symm
    · rw [rfP_n c, rfP_n c]
      by_cases c2 : b = 377
      · subst c2; rw [rfC_s, h2]; exact (rf0_n (by decide +kernel) i).symm
      · rw [rfC_n c2, rfC_n c]
  have lk := am_lg28.k
  refine mX1_init rfl rfl ?_
  simp (disch := first | omega | simp only [am_ci, am_cr, am_ca]) only [eX1_init_0, eX1_init_1, eX1_init_4, eX1_init_5, eX1_init_7, eX1_init_9, eX1_init_12, eX1_init_13, eX1_init_14, eX1_init_17, am_bi, Int.reduceEq, Int.reduceLT, Int.reduceLE, Int.reduceToNat, ite_self, Decidable.not_not, not_true_eq_false, not_false_eq_true, ↓reduceIte, am_ci, am_cr, am_ca, am_b0, am_b1, am_ts, am_tn, am_then_some, List.cons_append, List.nil_append, ne_eq, iI_lit, iI_add, iI_sub, iI_mul, iI_neg, iI_lt, iI_le, iI_eq, iI_in, iI_clz, dI_ap, dI_wr, setR_s, wE_R, setR_2, setR_n, setR_o, updI_s, updI_n, updI_2, tl_0, tl_1, tl_2, tl_3, tl_4, tl_5, tl_6, tl_7, tl_8, tl_9, tl_10, tl_11, tl_12, tl_13, tl_14, tl_15, tl_16, tn_3, tn_5, tn_13, tn_21, tn_29, tn_33, tn_37, tn_41, tn_45, tn_49, tn_53, tn_57, tn_61, tn_40, tn_p, tn_0, true_and, and_true, sk_0, sk_1, sk_2, sl_2, sk_3, sl_3, sk_4, sl_4, sk_5, sl_5, sk_6, sl_6, sk_7, sl_7, sk_8, sl_8, sk_9, sl_9, sk_10, sl_10, sk_11, sl_11, sk_12, sl_12, sk_13, sk_14, sl_14, sk_15, sk_40, sk_41, sl_41, sk_330, sl_330, sk_355, sk_356, sl_356, sk_357, sl_357, sk_358, sl_358, sk_359, sl_359, sk_360, sl_360, sk_361, sk_362, sl_362, sk_363, sk_376, sk_377, sl_377, sk_378, sk_379, sl_379, sk_380, sl_380, sk_381, sl_381, sk_382, sl_382, sk_383, sl_383, sk_384, sl_384, sk_385, sl_385, sk_386, sl_386, sk_387, sl_387, sk_388, sl_388, sk_389, sl_389, sk_390, sl_390, sk_391, sl_391, sk_392, sl_392, sk_393, sl_393, sk_394, sl_394, sr_0_0, sr_0_1, sr_0_2, sr_0_3, sr_0_4, sr_0_5, sr_0_6, sr_0_7, sr_0_8, sr_0_9, sr_1_0, sr_1_1, sr_1_2, sr_13_0, sr_15_0, sr_15_2, sr_40_0, sr_355_0, sr_355_1, sr_355_2, sr_355_3, sr_355_4, sr_355_5, sr_361_2, sr_361_5, sr_361_6, sr_363_0, sr_363_1, sr_376_0, sr_376_2, sr_378_0, sr_378_1, sr_378_2, sr_378_4, sr_378_8, sr_378_10, sr_378_11, sr_378_12, sr_378_14, sr_378_20, sr_378_21, sr_378_22, sr_378_23, sr_378_24, sr_378_25, sr_378_26, am_vs, sx_k, sx_x, sx_w, n1, zr_0, lk, e]
  repeat (refine ⟨⟨by decide, Or.inl trivial⟩, by decide, ?_⟩)
  trivial
theorem i_renown {d sl : Nat} {R : Nat → Nat → Option Nat} (h1 : R 361 = am_rf0 361) (h2 : R 362 = am_rf0 362) : am_sem (d + 1) 66 [.ref 361, .ref 28, .ref 355] (am_Sx 362 sl (rfC R 361)) (dI E0) = some (none, am_Sx 363 (sl + 384) R, dI E0) := by
  have n1 := fun sl R => sx_n (sl := sl) (R := R) sk_362 sl_362
  have e : rfP (rfP (rfP (rfC (rfC R 361) 362) 361 2 (some 362)) 361 5 (some 28)) 361 6 (some 355) = R := by
    funext b i
    by_cases c : b = 361
    · subst c
      rw [rfP_s, rfP_s, rfP_s, rfC_n (by omega), rfC_s, h1]
      by_cases c2 : i = 6
      · subst c2; rfl
      · by_cases c3 : i = 5
        · subst c3; rfl
        · by_cases c4 : i = 2
          · subst c4; rfl
          · rw [if_neg c2, if_neg c3, if_neg c4]
            exact (rf0_f (ks := [2, 5, 6]) (by decide +kernel) (by simp [c2, c3, c4])).symm
    · rw [rfP_n c, rfP_n c, rfP_n c]
      by_cases c2 : b = 362
      · subst c2; rw [rfC_s, h2]; exact (rf0_n (by decide +kernel) i).symm
      · rw [rfC_n c2, rfC_n c]
  have lk := am_lg28.k
  refine mX5_init rfl rfl ?_
  simp (disch := first | omega | simp only [am_ci, am_cr, am_ca]) only [eX5_init_0, eX5_init_1, eX5_init_4, eX5_init_5, eX5_init_8, eX5_init_10, eX5_init_13, eX5_init_14, eX5_init_15, eX5_init_18, eX5_init_19, eX5_init_20, eX5_init_23, am_bi, Int.reduceEq, Int.reduceLT, Int.reduceLE, Int.reduceToNat, ite_self, Decidable.not_not, not_true_eq_false, not_false_eq_true, ↓reduceIte, am_ci, am_cr, am_ca, am_b0, am_b1, am_ts, am_tn, am_then_some, List.cons_append, List.nil_append, ne_eq, iI_lit, iI_add, iI_sub, iI_mul, iI_neg, iI_lt, iI_le, iI_eq, iI_in, iI_clz, dI_ap, dI_wr, setR_s, wE_R, setR_2, setR_n, setR_o, updI_s, updI_n, updI_2, tl_0, tl_1, tl_2, tl_3, tl_4, tl_5, tl_6, tl_7, tl_8, tl_9, tl_10, tl_11, tl_12, tl_13, tl_14, tl_15, tl_16, tn_3, tn_5, tn_13, tn_21, tn_29, tn_33, tn_37, tn_41, tn_45, tn_49, tn_53, tn_57, tn_61, tn_40, tn_p, tn_0, true_and, and_true, sk_0, sk_1, sk_2, sl_2, sk_3, sl_3, sk_4, sl_4, sk_5, sl_5, sk_6, sl_6, sk_7, sl_7, sk_8, sl_8, sk_9, sl_9, sk_10, sl_10, sk_11, sl_11, sk_12, sl_12, sk_13, sk_14, sl_14, sk_15, sk_40, sk_41, sl_41, sk_330, sl_330, sk_355, sk_356, sl_356, sk_357, sl_357, sk_358, sl_358, sk_359, sl_359, sk_360, sl_360, sk_361, sk_362, sl_362, sk_363, sk_376, sk_377, sl_377, sk_378, sk_379, sl_379, sk_380, sl_380, sk_381, sl_381, sk_382, sl_382, sk_383, sl_383, sk_384, sl_384, sk_385, sl_385, sk_386, sl_386, sk_387, sl_387, sk_388, sl_388, sk_389, sl_389, sk_390, sl_390, sk_391, sl_391, sk_392, sl_392, sk_393, sl_393, sk_394, sl_394, sr_0_0, sr_0_1, sr_0_2, sr_0_3, sr_0_4, sr_0_5, sr_0_6, sr_0_7, sr_0_8, sr_0_9, sr_1_0, sr_1_1, sr_1_2, sr_13_0, sr_15_0, sr_15_2, sr_40_0, sr_355_0, sr_355_1, sr_355_2, sr_355_3, sr_355_4, sr_355_5, sr_361_2, sr_361_5, sr_361_6, sr_363_0, sr_363_1, sr_376_0, sr_376_2, sr_378_0, sr_378_1, sr_378_2, sr_378_4, sr_378_8, sr_378_10, sr_378_11, sr_378_12, sr_378_14, sr_378_20, sr_378_21, sr_378_22, sr_378_23, sr_378_24, sr_378_25, sr_378_26, am_vs, sx_k, sx_x, sx_w, n1, zr_0, lk, e]
  repeat (refine ⟨⟨by decide, Or.inl trivial⟩, by decide, ?_⟩)
  trivial
