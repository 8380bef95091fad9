theorem i_news {d : Nat} : am_sem (d + 3) 89 [.ref 0] (am_Sx 1 12 (rfC am_rf0 0)) (dI E0) = some (none, am_Sx 378 3633 am_rf0, dI E0) := by
  obtain ⟨o1, o2, o3, o4, o5, o6, o7, o8, o9, o10, k0⟩ := kl_o
  have n1 := fun sl R => sx_n (sl := sl) (R := R) o1.1 o1.2
  have n2 := fun sl R => sx_n (sl := sl) (R := R) o2.1 o2.2
  have n3 := fun sl R => sx_n (sl := sl) (R := R) o3.1 o3.2
  have n4 := fun sl R => sx_n (sl := sl) (R := R) o4.1 o4.2
  have n5 := fun sl R => sx_n (sl := sl) (R := R) o5.1 o5.2
  have n6 := fun sl R => sx_n (sl := sl) (R := R) o6.1 o6.2
  have n7 := fun sl R => sx_n (sl := sl) (R := R) o7.1 o7.2
  have n8 := fun sl R => sx_n (sl := sl) (R := R) o8.1 o8.2
  have n9 := fun sl R => sx_n (sl := sl) (R := R) o9.1 o9.2
  have n10 := fun sl R => sx_n (sl := sl) (R := R) o10.1 o10.2
  have A0 := ag_0
  have A1 := ag_p A0 0 (some 1)
  have A2 := ag_p A1 1 (some 13)
  have A3 := ag_p A2 2 (some 15)
  have A4 := ag_p A3 3 (some 28)
  have A5 := ag_p A4 4 (some 40)
  have A6 := ag_p A5 5 (some 330)
  have A7 := ag_p A6 6 (some 355)
  have A8 := ag_p A7 7 (some 361)
  have A9 := ag_p A8 8 (some 363)
  have H1 := i_rows (d := d) (sl := 15) (R := rfC am_rf0 0) (fun b h1 h2 => A0 b (by omega))
  generalize hR0 : rfC am_rf0 0 = R0 at *
  have H2 := i_tape (d := d + 1) (sl := 365) (A1 13 (by omega)) (A1 14 (by omega))
  generalize hR1 : rfP R0 0 0 (some 1) = R1 at *
  have H3 := i_reader (d := d) (sl := 488) (fun b h1 h2 => A2 b (by omega))
  generalize hR2 : rfP R1 0 1 (some 13) = R2 at *
  have H4 := i_leagueN (d := d + 1) (a := 28) (sl := 596) am_lg28 (by omega) (fun b h1 h2 => A3 b (by omega))
  generalize hR3 : rfP R2 0 2 (some 15) = R3 at *
  have H5 := i_acts (d := d) (sl := 675) (fun b h1 h2 => A4 b (by omega))
  generalize hR4 : rfP R3 0 3 (some 28) = R4 at *
  generalize hR5 : rfP R4 0 4 (some 40) = R5 at *
  have e5 : rfP (rfC R5 330) 0 5 (some 330) = rbT (rfP R5 0 5 (some 330)) 0 := by
    funext b i
    by_cases c : b = 0
    · subst c; rw [rfP_s, rfC_n (by omega), rbT_n (by omega), rfP_s]
    · rw [rfP_n c]
      by_cases c2 : b = 330
      · subst c2; rw [rfC_s]; unfold rbT; rw [if_pos ⟨rfl, by omega⟩]
      · rw [rfC_n c2, rbT_n c2, rfP_n c]
  have H7 := i_foretold (d := d + 1) (sl := 3099) (fun b h1 h2 => A6 b (by omega))
  generalize hR6 : rfP R5 0 5 (some 330) = R6 at *
  have H8 := i_renown (d := d + 1) (sl := 3136) (A7 361 (by omega)) (A7 362 (by omega))
  generalize hR7 : rfP R6 0 6 (some 355) = R7 at *
  have H9 := i_voyage (d := d) (sl := 3522) (fun b h1 h2 => A8 b (by omega))
  generalize hR8 : rfP R7 0 7 (some 361) = R8 at *
  have H10 := i_asks (d := d + 1) (sl := 3617) (A9 376 (by omega)) (A9 377 (by omega))
  generalize hR9 : rfP R8 0 8 (some 363) = R9 at *
  have q2 : R2 0 1 = some 13 := by rw [← hR2, rfP_s]; rfl
  have q6 : R6 0 5 = some 330 := by rw [← hR6, rfP_s]; rfl
  have s3 : ∀ i, i = 3 → R6 0 i = some 28 := fun i e => by subst e; rw [← hR6, rfP_s, ← hR5, if_neg (by omega), rfP_s, if_neg (by omega), ← hR4, rfP_s]; rfl
  have q63 := s3 3 rfl
  have q73 : R7 0 3 = some 28 := by rw [← hR7, rfP_s, if_neg (by omega), q63]
  have q76 : R7 0 6 = some 355 := by rw [← hR7, rfP_s]; rfl
  have q83 : R8 0 3 = some 28 := by rw [← hR8, rfP_s, if_neg (by omega), q73]
  have q93 : R9 0 3 = some 28 := by rw [← hR9, rfP_s, if_neg (by omega), q83]
  have eE : rfP R9 0 9 (some 376) = am_rf0 := by
    funext b i
    by_cases c : b = 0
    · subst c
      rw [rfP_s, ← hR9, rfP_s, ← hR8, rfP_s, ← hR7, rfP_s, ← hR6, rfP_s, ← hR5, rfP_s, ← hR4, rfP_s, ← hR3, rfP_s, ← hR2, rfP_s, ← hR1, rfP_s, ← hR0, rfC_s]
      by_cases c1 : i < 10
      · have : ∀ i, i < 10 → (if i = 9 then some 376 else if i = 8 then some 363 else if i = 7 then some 361 else if i = 6 then some 355 else if i = 5 then some 330 else if i = 4 then some 40 else if i = 3 then some 28 else if i = 2 then some 15 else if i = 1 then some 13 else if i = 0 then some 1 else none) = am_rf0 0 i := by decide +kernel
        exact this i c1
      · repeat rw [if_neg (by omega)]
        exact (rf0_f (ks := [0, 1, 2, 3, 4, 5, 6, 7, 8, 9]) (by decide +kernel) (by simp; omega)).symm
    · rw [rfP_n c, A9 b (by omega)]
  refine mX9_init rfl rfl ?_
  have fin := i_images (d := d + 1) (R := R6) A6 q6 (r := (none, am_Sx 378 3633 am_rf0, dI E0)) (fun v => by
    simp (disch := first | omega | simp only [am_ci, am_cr, am_ca]) only [eX9_init_97, eX9_init_98, eX9_init_101, eX9_init_102, eX9_init_103, eX9_init_106, eX9_init_109, eX9_init_112, eX9_init_113, eX9_init_116, eX9_init_117, eX9_init_118, eX9_init_121, eX9_init_122, eX9_init_125, eX9_init_128, eX9_init_131, eX9_init_132, eX9_init_135, eX9_init_136, eX9_init_137, eX9_init_140, eX9_init_143, eX9_init_146, eX9_init_147, eX9_init_150, eX9_init_151, eX9_init_152, eX9_init_155, eX9_init_158, eX9_init_161, am_bi, Int.reduceEq, Int.reduceLT, Int.reduceLE, Int.reduceToNat, ite_self, Decidable.not_not, not_true_eq_false, not_false_eq_true, ↓reduceIte, am_ci, am_cr, am_ca, am_b0, am_b1, am_ts, am_tn, am_then_some, List.cons_append, List.nil_append, ne_eq, iI_lit, iI_add, iI_sub, iI_mul, iI_neg, iI_lt, iI_le, iI_eq, iI_in, iI_clz, dI_ap, dI_wr, setR_s, wE_R, setR_2, setR_n, setR_o, updI_s, updI_n, updI_2, tl_0, tl_1, tl_2, tl_3, tl_4, tl_5, tl_6, tl_7, tl_8, tl_9, tl_10, tl_11, tl_12, tl_13, tl_14, tl_15, tl_16, tn_3, tn_5, tn_13, tn_21, tn_29, tn_33, tn_37, tn_41, tn_45, tn_49, tn_53, tn_57, tn_61, tn_40, tn_p, tn_0, true_and, and_true, sk_0, sk_1, sk_2, sl_2, sk_3, sl_3, sk_4, sl_4, sk_5, sl_5, sk_6, sl_6, sk_7, sl_7, sk_8, sl_8, sk_9, sl_9, sk_10, sl_10, sk_11, sl_11, sk_12, sl_12, sk_13, sk_14, sl_14, sk_15, sk_40, sk_41, sl_41, sk_330, sl_330, sk_355, sk_356, sl_356, sk_357, sl_357, sk_358, sl_358, sk_359, sl_359, sk_360, sl_360, sk_361, sk_362, sl_362, sk_363, sk_376, sk_377, sl_377, sk_378, sk_379, sl_379, sk_380, sl_380, sk_381, sl_381, sk_382, sl_382, sk_383, sl_383, sk_384, sl_384, sk_385, sl_385, sk_386, sl_386, sk_387, sl_387, sk_388, sl_388, sk_389, sl_389, sk_390, sl_390, sk_391, sl_391, sk_392, sl_392, sk_393, sl_393, sk_394, sl_394, sr_0_0, sr_0_1, sr_0_2, sr_0_3, sr_0_4, sr_0_5, sr_0_6, sr_0_7, sr_0_8, sr_0_9, sr_1_0, sr_1_1, sr_1_2, sr_13_0, sr_15_0, sr_15_2, sr_40_0, sr_355_0, sr_355_1, sr_355_2, sr_355_3, sr_355_4, sr_355_5, sr_361_2, sr_361_5, sr_361_6, sr_363_0, sr_363_1, sr_376_0, sr_376_2, sr_378_0, sr_378_1, sr_378_2, sr_378_4, sr_378_8, sr_378_10, sr_378_11, sr_378_12, sr_378_14, sr_378_20, sr_378_21, sr_378_22, sr_378_23, sr_378_24, sr_378_25, sr_378_26, am_vs, sx_k, sx_x, sx_r, sx_w, n7, n8, n9, n10, zr_0, am_nf, o4.1, o7.1, o8.1, o9.1, o10.1, k0, q63, q73, q76, q83, q93, H7, H8, H9, H10, hR7, hR8, hR9, eE, rfC_n, Nat.reduceAdd]
    repeat (refine ⟨by decide, ?_⟩)
    trivial)
  simp (disch := first | omega | simp only [am_ci, am_cr, am_ca]) only [eX9_init_0, eX9_init_1, eX9_init_4, eX9_init_5, eX9_init_8, eX9_init_9, eX9_init_12, eX9_init_15, eX9_init_16, eX9_init_19, eX9_init_20, eX9_init_23, eX9_init_26, eX9_init_27, eX9_init_30, eX9_init_31, eX9_init_32, eX9_init_35, eX9_init_38, eX9_init_41, eX9_init_42, eX9_init_45, eX9_init_46, eX9_init_49, eX9_init_52, eX9_init_53, eX9_init_56, eX9_init_57, eX9_init_60, eX9_init_63, eX9_init_64, eX9_init_65, eX9_init_68, eX9_init_71, eX9_init_72, am_bi, Int.reduceEq, Int.reduceLT, Int.reduceLE, Int.reduceToNat, ite_self, Decidable.not_not, not_true_eq_false, not_false_eq_true, ↓reduceIte, am_ci, am_cr, am_ca, am_b0, am_b1, am_ts, am_tn, am_then_some, List.cons_append, List.nil_append, ne_eq, iI_lit, iI_add, iI_sub, iI_mul, iI_neg, iI_lt, iI_le, iI_eq, iI_in, iI_clz, dI_ap, dI_wr, setR_s, wE_R, setR_2, setR_n, setR_o, updI_s, updI_n, updI_2, tl_0, tl_1, tl_2, tl_3, tl_4, tl_5, tl_6, tl_7, tl_8, tl_9, tl_10, tl_11, tl_12, tl_13, tl_14, tl_15, tl_16, tn_3, tn_5, tn_13, tn_21, tn_29, tn_33, tn_37, tn_41, tn_45, tn_49, tn_53, tn_57, tn_61, tn_40, tn_p, tn_0, true_and, and_true, sk_0, sk_1, sk_2, sl_2, sk_3, sl_3, sk_4, sl_4, sk_5, sl_5, sk_6, sl_6, sk_7, sl_7, sk_8, sl_8, sk_9, sl_9, sk_10, sl_10, sk_11, sl_11, sk_12, sl_12, sk_13, sk_14, sl_14, sk_15, sk_40, sk_41, sl_41, sk_330, sl_330, sk_355, sk_356, sl_356, sk_357, sl_357, sk_358, sl_358, sk_359, sl_359, sk_360, sl_360, sk_361, sk_362, sl_362, sk_363, sk_376, sk_377, sl_377, sk_378, sk_379, sl_379, sk_380, sl_380, sk_381, sl_381, sk_382, sl_382, sk_383, sl_383, sk_384, sl_384, sk_385, sl_385, sk_386, sl_386, sk_387, sl_387, sk_388, sl_388, sk_389, sl_389, sk_390, sl_390, sk_391, sl_391, sk_392, sl_392, sk_393, sl_393, sk_394, sl_394, sr_0_0, sr_0_1, sr_0_2, sr_0_3, sr_0_4, sr_0_5, sr_0_6, sr_0_7, sr_0_8, sr_0_9, sr_1_0, sr_1_1, sr_1_2, sr_13_0, sr_15_0, sr_15_2, sr_40_0, sr_355_0, sr_355_1, sr_355_2, sr_355_3, sr_355_4, sr_355_5, sr_361_2, sr_361_5, sr_361_6, sr_363_0, sr_363_1, sr_376_0, sr_376_2, sr_378_0, sr_378_1, sr_378_2, sr_378_4, sr_378_8, sr_378_10, sr_378_11, sr_378_12, sr_378_14, sr_378_20, sr_378_21, sr_378_22, sr_378_23, sr_378_24, sr_378_25, sr_378_26, am_vs, sx_k, sx_x, sx_r, sx_w, n1, n2, n3, n4, n5, n6, zr_0, am_nf, o1.1, o2.1, o3.1, o4.1, o5.1, o6.1, k0, q2, H1, H2, H3, H4, H5, hR1, hR2, hR3, hR4, hR5, e5, hR6, rfC_n, Nat.reduceAdd]
  repeat (refine ⟨by decide, ?_⟩)
  exact fin
