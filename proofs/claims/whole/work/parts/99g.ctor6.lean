/-! ===== foretold ===== -/
theorem i_foretold {d sl : Nat} {R : Nat → Nat → Option Nat} (hR : ∀ b, 355 ≤ b → b < 361 → R b = am_rf0 b) : am_sem (d + 1) 15 [.ref 355, .ref 28] (am_Sx 356 sl (rfC R 355)) (dI E0) = some (none, am_Sx 361 (sl + 30) R, dI E0) := by
  have n1 := fun sl R => sx_n (sl := sl) (R := R) sk_356 sl_356
  have n2 := fun sl R => sx_n (sl := sl) (R := R) sk_357 sl_357
  have n3 := fun sl R => sx_n (sl := sl) (R := R) sk_358 sl_358
  have n4 := fun sl R => sx_n (sl := sl) (R := R) sk_359 sl_359
  have n5 := fun sl R => sx_n (sl := sl) (R := R) sk_360 sl_360
  have e : rfP (rfP (rfC (rfP (rfC (rfP (rfC (rfP (rfC (rfP (rfC (rfC R 355) 356) 355 0 (some 356)) 357) 355 1 (some 357)) 358) 355 2 (some 358)) 359) 355 3 (some 359)) 360) 355 4 (some 360)) 355 5 (some 28) = R := by
    funext b i
    by_cases c : b = 355
    · subst c
      simp (disch := omega) only [rfP_s, rfC_n]
      rw [rfC_s, hR 355 (by omega) (by omega)]
      by_cases c0 : i = 0
      · subst c0; rfl
      · by_cases c1 : i = 1
        · subst c1; rfl
        · by_cases c2 : i = 2
          · subst c2; rfl
          · by_cases c3 : i = 3
            · subst c3; rfl
            · by_cases c4 : i = 4
              · subst c4; rfl
              · by_cases c5 : i = 5
                · subst c5; rfl
                · rw [if_neg c5, if_neg c4, if_neg c3, if_neg c2, if_neg c1, if_neg c0]
                  exact (rf0_f (ks := [0, 1, 2, 3, 4, 5]) (by decide +kernel) (by simp [c0, c1, c2, c3, c4, c5])).symm
    · by_cases c2 : 355 < b ∧ b < 361
      · have hb := hR b (by omega) (by omega)
        have : b = 356 ∨ b = 357 ∨ b = 358 ∨ b = 359 ∨ b = 360 := by omega
        rcases this with rfl | rfl | rfl | rfl | rfl
        all_goals
          simp (disch := omega) only [rfP_n, rfC_n, rfC_s]
          rw [hb]
          exact (rf0_n (by decide +kernel) i).symm
      · simp (disch := omega) only [rfP_n, rfC_n]
  have lk := am_lg28.k
  refine mX2_init rfl rfl ?_
  simp (disch := first | omega | simp only [am_ci, am_cr, am_ca]) only [eX2_init_0, eX2_init_1, eX2_init_4, eX2_init_5, eX2_init_7, eX2_init_9, eX2_init_12, eX2_init_13, eX2_init_15, eX2_init_17, eX2_init_20, eX2_init_21, eX2_init_23, eX2_init_25, eX2_init_28, eX2_init_29, eX2_init_31, eX2_init_33, eX2_init_36, eX2_init_37, eX2_init_39, eX2_init_41, eX2_init_44, eX2_init_45, eX2_init_46, eX2_init_49, am_bi, Int.reduceEq, Int.reduceLT, Int.reduceLE, Int.reduceToNat, ite_self, Decidable.not_not, not_true_eq_false, not_false_eq_true, ↓reduceIte, am_ci, am_cr, am_ca, am_b0, am_b1, am_ts, am_tn, am_then_some, List.cons_append, List.nil_append, ne_eq, iI_lit, iI_add, iI_sub, iI_mul, iI_neg, iI_lt, iI_le, iI_eq, iI_in, iI_clz, dI_ap, dI_wr, setR_s, wE_R, setR_2, setR_n, setR_o, updI_s, updI_n, updI_2, tl_0, tl_1, tl_2, tl_3, tl_4, tl_5, tl_6, tl_7, tl_8, tl_9, tl_10, tl_11, tl_12, tl_13, tl_14, tl_15, tl_16, tn_3, tn_5, tn_13, tn_21, tn_29, tn_33, tn_37, tn_41, tn_45, tn_49, tn_53, tn_57, tn_61, tn_40, tn_p, tn_0, true_and, and_true, sk_0, sk_1, sk_2, sl_2, sk_3, sl_3, sk_4, sl_4, sk_5, sl_5, sk_6, sl_6, sk_7, sl_7, sk_8, sl_8, sk_9, sl_9, sk_10, sl_10, sk_11, sl_11, sk_12, sl_12, sk_13, sk_14, sl_14, sk_15, sk_40, sk_41, sl_41, sk_330, sl_330, sk_355, sk_356, sl_356, sk_357, sl_357, sk_358, sl_358, sk_359, sl_359, sk_360, sl_360, sk_361, sk_362, sl_362, sk_363, sk_376, sk_377, sl_377, sk_378, sk_379, sl_379, sk_380, sl_380, sk_381, sl_381, sk_382, sl_382, sk_383, sl_383, sk_384, sl_384, sk_385, sl_385, sk_386, sl_386, sk_387, sl_387, sk_388, sl_388, sk_389, sl_389, sk_390, sl_390, sk_391, sl_391, sk_392, sl_392, sk_393, sl_393, sk_394, sl_394, sr_0_0, sr_0_1, sr_0_2, sr_0_3, sr_0_4, sr_0_5, sr_0_6, sr_0_7, sr_0_8, sr_0_9, sr_1_0, sr_1_1, sr_1_2, sr_13_0, sr_15_0, sr_15_2, sr_40_0, sr_355_0, sr_355_1, sr_355_2, sr_355_3, sr_355_4, sr_355_5, sr_361_2, sr_361_5, sr_361_6, sr_363_0, sr_363_1, sr_376_0, sr_376_2, sr_378_0, sr_378_1, sr_378_2, sr_378_4, sr_378_8, sr_378_10, sr_378_11, sr_378_12, sr_378_14, sr_378_20, sr_378_21, sr_378_22, sr_378_23, sr_378_24, sr_378_25, sr_378_26, am_vs, sx_k, sx_x, sx_w, n1, n2, n3, n4, n5, zr_0, lk, e]
  repeat (refine ⟨⟨by decide, Or.inl trivial⟩, by decide, ?_⟩)
  trivial
