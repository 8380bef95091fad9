/-! ===== NewsShipsModel is made ===== -/
def E2 : Nat → Nat → Int := setR E0 380 (fun _ => 0)
theorem zr_2 (b : Nat) (h : ¬ b = 2) : am_zr (dI E2) b = dI E2 := by
  rw [zr_R]
  congr 1
  funext a i
  by_cases c : a = b
  · subst c
    rw [setR_s]
    unfold E2
    by_cases c2 : a = 380
    · subst c2; rw [setR_s]
    · rw [setR_n c2, E0_z (by omega)]
  · rw [setR_n c]
theorem E2_8 : setR E0 380 (flT (fun _ => 0) (-1) 8) = E0 := by
  funext b i
  by_cases c : b = 380
  · subst c
    rw [setR_s]
    unfold flT E0
    by_cases c2 : i < 8
    · rw [if_pos c2, if_pos ⟨Or.inr rfl, c2⟩]
    · rw [if_neg c2, if_neg (fun x => c2 x.2)]
  · rw [setR_n c]
def ah (R : Nat → Nat → Option Nat) : Prop := ∀ b, b ≠ 378 → R b = am_rf0 b
theorem ah_0 : ah (rfC am_rf0 378) := fun b hb => by funext i; rw [rfC_n hb]
theorem ah_p {R : Nat → Nat → Option Nat} (h : ah R) (k : Nat) (o : Option Nat) : ah (rfP R 378 k o) := fun b hb => by funext i; rw [rfP_n hb, h b hb]
theorem ah_c {R : Nat → Nat → Option Nat} (h : ah R) {x : Nat} (hx : x ≠ 378) (hk : rfK x = true) : rfC R x = R := by
  funext b i
  by_cases c : b = x
  · subst c; rw [rfC_s, h b hx]; exact (rf0_n hk i).symm
  · rw [rfC_n c]
theorem k378 : am_kd am_S0 378 = 15 := by decide +kernel
theorem i_model {d : Nat} : am_sem (d + 1) 132 [.ref 378] (am_Sx 379 3660 (rfC am_rf0 378)) (dI E0) = some (none, am_S0, dI E0) := by
  have n0 := fun sl R => sx_n (sl := sl) (R := R) sk_379 sl_379
  have n1 := fun sl R => sx_n (sl := sl) (R := R) sk_380 sl_380
  have n2 := fun sl R => sx_n (sl := sl) (R := R) sk_381 sl_381
  have n3 := fun sl R => sx_n (sl := sl) (R := R) sk_382 sl_382
  have n4 := fun sl R => sx_n (sl := sl) (R := R) sk_383 sl_383
  have n5 := fun sl R => sx_n (sl := sl) (R := R) sk_384 sl_384
  have n6 := fun sl R => sx_n (sl := sl) (R := R) sk_385 sl_385
  have n7 := fun sl R => sx_n (sl := sl) (R := R) sk_386 sl_386
  have n8 := fun sl R => sx_n (sl := sl) (R := R) sk_387 sl_387
  have n9 := fun sl R => sx_n (sl := sl) (R := R) sk_388 sl_388
  have n10 := fun sl R => sx_n (sl := sl) (R := R) sk_389 sl_389
  have n11 := fun sl R => sx_n (sl := sl) (R := R) sk_390 sl_390
  have n12 := fun sl R => sx_n (sl := sl) (R := R) sk_391 sl_391
  have n13 := fun sl R => sx_n (sl := sl) (R := R) sk_392 sl_392
  have n14 := fun sl R => sx_n (sl := sl) (R := R) sk_393 sl_393
  have n15 := fun sl R => sx_n (sl := sl) (R := R) sk_394 sl_394
  have z0 : am_zr (dI E0) 380 = dI E2 := zr_R E0 380
  have A0 := ah_0
  have A1 := ah_p A0 0 (some 379)
  have A2 := ah_p A1 1 (some 380)
  have A3 := ah_p A2 2 (some 381)
  have A4 := ah_p A3 4 (some 382)
  have A5 := ah_p A4 8 (some 383)
  have A6 := ah_p A5 10 (some 384)
  have A7 := ah_p A6 11 (some 385)
  have A8 := ah_p A7 12 (some 386)
  have A9 := ah_p A8 14 (some 387)
  have A10 := ah_p A9 20 (some 388)
  have A11 := ah_p A10 21 (some 389)
  have A12 := ah_p A11 22 (some 390)
  have A13 := ah_p A12 23 (some 391)
  have A14 := ah_p A13 24 (some 392)
  have A15 := ah_p A14 25 (some 393)
  have A16 := ah_p A15 26 (some 394)
  have c0 := ah_c A0 (x := 379) (by omega) (by decide +kernel)
  generalize hR0 : rfC am_rf0 378 = R0 at *
  have c1 := ah_c A1 (x := 380) (by omega) (by decide +kernel)
  generalize hR1 : rfP R0 378 0 (some 379) = R1 at *
  have c2 := ah_c A2 (x := 381) (by omega) (by decide +kernel)
  generalize hR2 : rfP R1 378 1 (some 380) = R2 at *
  have c3 := ah_c A3 (x := 382) (by omega) (by decide +kernel)
  generalize hR3 : rfP R2 378 2 (some 381) = R3 at *
  have c4 := ah_c A4 (x := 383) (by omega) (by decide +kernel)
  generalize hR4 : rfP R3 378 4 (some 382) = R4 at *
  have c5 := ah_c A5 (x := 384) (by omega) (by decide +kernel)
  generalize hR5 : rfP R4 378 8 (some 383) = R5 at *
  have c6 := ah_c A6 (x := 385) (by omega) (by decide +kernel)
  generalize hR6 : rfP R5 378 10 (some 384) = R6 at *
  have c7 := ah_c A7 (x := 386) (by omega) (by decide +kernel)
  generalize hR7 : rfP R6 378 11 (some 385) = R7 at *
  have c8 := ah_c A8 (x := 387) (by omega) (by decide +kernel)
  generalize hR8 : rfP R7 378 12 (some 386) = R8 at *
  have c9 := ah_c A9 (x := 388) (by omega) (by decide +kernel)
  generalize hR9 : rfP R8 378 14 (some 387) = R9 at *
  have c10 := ah_c A10 (x := 389) (by omega) (by decide +kernel)
  generalize hR10 : rfP R9 378 20 (some 388) = R10 at *
  have c11 := ah_c A11 (x := 390) (by omega) (by decide +kernel)
  generalize hR11 : rfP R10 378 21 (some 389) = R11 at *
  have c12 := ah_c A12 (x := 391) (by omega) (by decide +kernel)
  generalize hR12 : rfP R11 378 22 (some 390) = R12 at *
  have c13 := ah_c A13 (x := 392) (by omega) (by decide +kernel)
  generalize hR13 : rfP R12 378 23 (some 391) = R13 at *
  have c14 := ah_c A14 (x := 393) (by omega) (by decide +kernel)
  generalize hR14 : rfP R13 378 24 (some 392) = R14 at *
  have c15 := ah_c A15 (x := 394) (by omega) (by decide +kernel)
  generalize hR15 : rfP R14 378 25 (some 393) = R15 at *
  generalize hR16 : rfP R15 378 26 (some 394) = R16 at *
  have eE : R16 = am_rf0 := by
    funext b i
    by_cases c : b = 378
    · subst c
      rw [← hR16, rfP_s, ← hR15, rfP_s, ← hR14, rfP_s, ← hR13, rfP_s, ← hR12, rfP_s, ← hR11, rfP_s, ← hR10, rfP_s, ← hR9, rfP_s, ← hR8, rfP_s, ← hR7, rfP_s, ← hR6, rfP_s, ← hR5, rfP_s, ← hR4, rfP_s, ← hR3, rfP_s, ← hR2, rfP_s, ← hR1, rfP_s, ← hR0, rfC_s]
      by_cases c1 : i < 27
      · have : ∀ i, i < 27 → (if i = 26 then some 394 else if i = 25 then some 393 else if i = 24 then some 392 else if i = 23 then some 391 else if i = 22 then some 390 else if i = 21 then some 389 else if i = 20 then some 388 else if i = 14 then some 387 else if i = 12 then some 386 else if i = 11 then some 385 else if i = 10 then some 384 else if i = 8 then some 383 else if i = 4 then some 382 else if i = 2 then some 381 else if i = 1 then some 380 else if i = 0 then some 379 else none) = am_rf0 378 i := by decide +kernel
        exact this i c1
      · repeat rw [if_neg (by omega)]
        exact (rf0_f (ks := [0, 1, 2, 4, 8, 10, 11, 12, 14, 20, 21, 22, 23, 24, 25, 26]) (by decide +kernel) (by simp; omega)).symm
    · rw [A16 b c]
  have q1 : am_rf0 378 1 = some 380 := by decide +kernel
  have lp := am_loop (P := fun k => am_ev (am_sem d) 110 cX10_init 137 [.ref 378, .int (iI k)] [] am_S0 (dI (setR E0 380 (flT (fun _ => 0) (-1) k))) (none, am_S0, dI E0)) (n := 8) ?_ ?_ (k := 0) (by omega)
  · have e0 : setR E0 380 (flT (fun _ => 0) (-1) 0) = E2 := by
      unfold E2
      congr 1
    rw [e0] at lp
    refine mX10_init rfl rfl ?_
    simp (disch := first | omega | simp only [am_ci, am_cr, am_ca]) only [eX10_init_0, eX10_init_1, eX10_init_4, eX10_init_5, eX10_init_7, eX10_init_9, eX10_init_12, eX10_init_13, eX10_init_15, eX10_init_17, eX10_init_20, eX10_init_21, eX10_init_24, eX10_init_26, eX10_init_29, eX10_init_30, eX10_init_32, eX10_init_34, eX10_init_37, eX10_init_38, eX10_init_40, eX10_init_42, eX10_init_45, eX10_init_46, eX10_init_49, eX10_init_51, eX10_init_54, eX10_init_55, eX10_init_58, eX10_init_60, eX10_init_63, eX10_init_64, eX10_init_65, eX10_init_67, eX10_init_70, eX10_init_71, eX10_init_73, eX10_init_75, eX10_init_78, eX10_init_79, eX10_init_81, eX10_init_83, eX10_init_86, eX10_init_87, eX10_init_89, eX10_init_91, eX10_init_94, eX10_init_95, eX10_init_97, eX10_init_99, eX10_init_102, eX10_init_103, eX10_init_105, eX10_init_107, eX10_init_110, eX10_init_111, eX10_init_113, eX10_init_115, eX10_init_118, eX10_init_119, eX10_init_122, eX10_init_124, eX10_init_127, eX10_init_128, eX10_init_130, eX10_init_132, eX10_init_135, eX10_init_136, am_bi, Int.reduceEq, Int.reduceLT, Int.reduceLE, Int.reduceToNat, ite_self, Decidable.not_not, not_true_eq_false, not_false_eq_true, ↓reduceIte, am_ci, am_cr, am_ca, am_b0, am_b1, am_ts, am_tn, am_then_some, List.cons_append, List.nil_append, ne_eq, iI_lit, iI_add, iI_sub, iI_mul, iI_neg, iI_lt, iI_le, iI_eq, iI_in, iI_clz, dI_ap, dI_wr, setR_s, wE_R, setR_2, setR_n, setR_o, updI_s, updI_n, updI_2, tl_0, tl_1, tl_2, tl_3, tl_4, tl_5, tl_6, tl_7, tl_8, tl_9, tl_10, tl_11, tl_12, tl_13, tl_14, tl_15, tl_16, tn_3, tn_5, tn_13, tn_21, tn_29, tn_33, tn_37, tn_41, tn_45, tn_49, tn_53, tn_57, tn_61, tn_40, tn_p, tn_0, true_and, and_true, sk_0, sk_1, sk_2, sl_2, sk_3, sl_3, sk_4, sl_4, sk_5, sl_5, sk_6, sl_6, sk_7, sl_7, sk_8, sl_8, sk_9, sl_9, sk_10, sl_10, sk_11, sl_11, sk_12, sl_12, sk_13, sk_14, sl_14, sk_15, sk_40, sk_41, sl_41, sk_330, sl_330, sk_355, sk_356, sl_356, sk_357, sl_357, sk_358, sl_358, sk_359, sl_359, sk_360, sl_360, sk_361, sk_362, sl_362, sk_363, sk_376, sk_377, sl_377, sk_378, sk_379, sl_379, sk_380, sl_380, sk_381, sl_381, sk_382, sl_382, sk_383, sl_383, sk_384, sl_384, sk_385, sl_385, sk_386, sl_386, sk_387, sl_387, sk_388, sl_388, sk_389, sl_389, sk_390, sl_390, sk_391, sl_391, sk_392, sl_392, sk_393, sl_393, sk_394, sl_394, sr_0_0, sr_0_1, sr_0_2, sr_0_3, sr_0_4, sr_0_5, sr_0_6, sr_0_7, sr_0_8, sr_0_9, sr_1_0, sr_1_1, sr_1_2, sr_13_0, sr_15_0, sr_15_2, sr_40_0, sr_355_0, sr_355_1, sr_355_2, sr_355_3, sr_355_4, sr_355_5, sr_361_2, sr_361_5, sr_361_6, sr_363_0, sr_363_1, sr_376_0, sr_376_2, sr_378_0, sr_378_1, sr_378_2, sr_378_4, sr_378_8, sr_378_10, sr_378_11, sr_378_12, sr_378_14, sr_378_20, sr_378_21, sr_378_22, sr_378_23, sr_378_24, sr_378_25, sr_378_26, am_vs, sx_k, sx_x, sx_w, k378, z0, zr_0, zr_2, n0, n1, n2, n3, n4, n5, n6, n7, n8, n9, n10, n11, n12, n13, n14, n15, c0, c1, c2, c3, c4, c5, c6, c7, c8, c9, c10, c11, c12, c13, c14, c15, hR1, hR2, hR3, hR4, hR5, hR6, hR7, hR8, hR9, hR10, hR11, hR12, hR13, hR14, hR15, hR16, eE, Nat.reduceAdd]
    repeat (first | refine ⟨⟨by decide, Or.inl trivial⟩, by decide, ?_⟩ | refine ⟨⟨by decide, Or.inr trivial⟩, by decide, ?_⟩)
    rw [sx_S0]
    exact lp
  · intro k hk ih
    rw [← flT_s] at ih
    rw [show ((k + 1 : Nat) : Int) = (k : Int) + 1 by omega] at ih
    rw [eX10_init_137]
    simp (disch := first | omega | simp only [am_ci, am_cr, am_ca]) only [eX10_init_138, eX10_init_140, eX10_init_143, eX10_init_144, eX10_init_147, eX10_init_148, eX10_init_149, eX10_init_150, eX10_init_153, am_bi, Int.reduceEq, Int.reduceLT, Int.reduceLE, Int.reduceToNat, ite_self, Decidable.not_not, not_true_eq_false, not_false_eq_true, ↓reduceIte, am_ci, am_cr, am_ca, am_b0, am_b1, am_ts, am_tn, am_then_some, List.cons_append, List.nil_append, ne_eq, iI_lit, iI_add, iI_sub, iI_mul, iI_neg, iI_lt, iI_le, iI_eq, iI_in, iI_clz, dI_ap, dI_wr, setR_s, wE_R, setR_2, setR_n, setR_o, updI_s, updI_n, updI_2, tl_0, tl_1, tl_2, tl_3, tl_4, tl_5, tl_6, tl_7, tl_8, tl_9, tl_10, tl_11, tl_12, tl_13, tl_14, tl_15, tl_16, tn_3, tn_5, tn_13, tn_21, tn_29, tn_33, tn_37, tn_41, tn_45, tn_49, tn_53, tn_57, tn_61, tn_40, tn_p, tn_0, true_and, and_true, sk_0, sk_1, sk_2, sl_2, sk_3, sl_3, sk_4, sl_4, sk_5, sl_5, sk_6, sl_6, sk_7, sl_7, sk_8, sl_8, sk_9, sl_9, sk_10, sl_10, sk_11, sl_11, sk_12, sl_12, sk_13, sk_14, sl_14, sk_15, sk_40, sk_41, sl_41, sk_330, sl_330, sk_355, sk_356, sl_356, sk_357, sl_357, sk_358, sl_358, sk_359, sl_359, sk_360, sl_360, sk_361, sk_362, sl_362, sk_363, sk_376, sk_377, sl_377, sk_378, sk_379, sl_379, sk_380, sl_380, sk_381, sl_381, sk_382, sl_382, sk_383, sl_383, sk_384, sl_384, sk_385, sl_385, sk_386, sl_386, sk_387, sl_387, sk_388, sl_388, sk_389, sl_389, sk_390, sl_390, sk_391, sl_391, sk_392, sl_392, sk_393, sl_393, sk_394, sl_394, sr_0_0, sr_0_1, sr_0_2, sr_0_3, sr_0_4, sr_0_5, sr_0_6, sr_0_7, sr_0_8, sr_0_9, sr_1_0, sr_1_1, sr_1_2, sr_13_0, sr_15_0, sr_15_2, sr_40_0, sr_355_0, sr_355_1, sr_355_2, sr_355_3, sr_355_4, sr_355_5, sr_361_2, sr_361_5, sr_361_6, sr_363_0, sr_363_1, sr_376_0, sr_376_2, sr_378_0, sr_378_1, sr_378_2, sr_378_4, sr_378_8, sr_378_10, sr_378_11, sr_378_12, sr_378_14, sr_378_20, sr_378_21, sr_378_22, sr_378_23, sr_378_24, sr_378_25, sr_378_26, am_vs, setR_s, setR_2]
    repeat (first | rw [if_pos (by omega)] | rw [if_neg (by omega)])
    exact ih
  · rw [E2_8, eX10_init_137]
    simp (disch := first | omega | simp only [am_ci, am_cr, am_ca]) only [eX10_init_138, eX10_init_140, eX10_init_143, eX10_init_144, eX10_init_147, eX10_init_148, eX10_init_149, eX10_init_150, eX10_init_153, eX10_init_156, am_bi, Int.reduceEq, Int.reduceLT, Int.reduceLE, Int.reduceToNat, ite_self, Decidable.not_not, not_true_eq_false, not_false_eq_true, ↓reduceIte, am_ci, am_cr, am_ca, am_b0, am_b1, am_ts, am_tn, am_then_some, List.cons_append, List.nil_append, ne_eq, iI_lit, iI_add, iI_sub, iI_mul, iI_neg, iI_lt, iI_le, iI_eq, iI_in, iI_clz, dI_ap, dI_wr, setR_s, wE_R, setR_2, setR_n, setR_o, updI_s, updI_n, updI_2, tl_0, tl_1, tl_2, tl_3, tl_4, tl_5, tl_6, tl_7, tl_8, tl_9, tl_10, tl_11, tl_12, tl_13, tl_14, tl_15, tl_16, tn_3, tn_5, tn_13, tn_21, tn_29, tn_33, tn_37, tn_41, tn_45, tn_49, tn_53, tn_57, tn_61, tn_40, tn_p, tn_0, true_and, and_true, sk_0, sk_1, sk_2, sl_2, sk_3, sl_3, sk_4, sl_4, sk_5, sl_5, sk_6, sl_6, sk_7, sl_7, sk_8, sl_8, sk_9, sl_9, sk_10, sl_10, sk_11, sl_11, sk_12, sl_12, sk_13, sk_14, sl_14, sk_15, sk_40, sk_41, sl_41, sk_330, sl_330, sk_355, sk_356, sl_356, sk_357, sl_357, sk_358, sl_358, sk_359, sl_359, sk_360, sl_360, sk_361, sk_362, sl_362, sk_363, sk_376, sk_377, sl_377, sk_378, sk_379, sl_379, sk_380, sl_380, sk_381, sl_381, sk_382, sl_382, sk_383, sl_383, sk_384, sl_384, sk_385, sl_385, sk_386, sl_386, sk_387, sl_387, sk_388, sl_388, sk_389, sl_389, sk_390, sl_390, sk_391, sl_391, sk_392, sl_392, sk_393, sl_393, sk_394, sl_394, sr_0_0, sr_0_1, sr_0_2, sr_0_3, sr_0_4, sr_0_5, sr_0_6, sr_0_7, sr_0_8, sr_0_9, sr_1_0, sr_1_1, sr_1_2, sr_13_0, sr_15_0, sr_15_2, sr_40_0, sr_355_0, sr_355_1, sr_355_2, sr_355_3, sr_355_4, sr_355_5, sr_361_2, sr_361_5, sr_361_6, sr_363_0, sr_363_1, sr_376_0, sr_376_2, sr_378_0, sr_378_1, sr_378_2, sr_378_4, sr_378_8, sr_378_10, sr_378_11, sr_378_12, sr_378_14, sr_378_20, sr_378_21, sr_378_22, sr_378_23, sr_378_24, sr_378_25, sr_378_26, am_vs]
    rw [if_pos (by omega)]
    trivial
