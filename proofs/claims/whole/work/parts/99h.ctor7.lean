/-! ===== acts ===== -/
theorem ac_lg : ∀ i, i < 24 → 42 + 12 * i ∈ am_lgs ∧ am_ln am_S0 (42 + 12 * i) = 16 ∧ am_rf0 41 i = some (42 + 12 * i) := by decide +kernel
theorem ac_41 : am_kd am_S0 41 = 3 ∧ am_ln am_S0 41 = 24 := by decide +kernel
theorem ac_n {k : Nat} (h : 24 ≤ k) : am_rf0 41 k = none := by
  unfold am_rf0
  rw [if_neg (by decide +kernel), if_pos rfl, if_neg (by omega)]
def raT (R : Nat → Nat → Option Nat) (i : Nat) : Nat → Nat → Option Nat := fun b k => if b = 41 ∧ i ≤ k then none else R b k
theorem raT_n {R : Nat → Nat → Option Nat} {i b : Nat} (h : b ≠ 41) : raT R i b = R b := by funext k; unfold raT; rw [if_neg (fun x => h x.1)]
theorem i_acts {d sl : Nat} {R : Nat → Nat → Option Nat} (hR : ∀ b, 40 ≤ b → b < 330 → R b = am_rf0 b) : am_sem (d + 2) 0 [.ref 40] (am_Sx 41 sl (rfC R 40)) (dI E0) = some (none, am_Sx 330 (sl + 2232) R, dI E0) := by
  have n1 := fun sl R => sx_n (sl := sl) (R := R) ac_41.1 ac_41.2
  have h41 := hR 41 (by omega) (by omega)
  have e : rfP (rfC (rfC R 40) 41) 40 0 (some 41) = raT R 0 := by
    funext b i
    by_cases c : b = 40
    · subst c
      rw [rfP_s, rfC_n (by omega), rfC_s, raT_n (by omega), hR 40 (by omega) (by omega)]
      by_cases c2 : i = 0
      · subst c2; rfl
      · rw [if_neg c2]
        exact (rf0_f (ks := [0]) (by decide +kernel) (by simp [c2])).symm
    · rw [rfP_n c]
      by_cases c2 : b = 41
      · subst c2; rw [rfC_s]; unfold raT; rw [if_pos ⟨rfl, by omega⟩]
      · rw [rfC_n c2, rfC_n c, raT_n c2]
  have e24 : raT R 24 = R := by
    funext b i
    unfold raT
    split
    · rename_i c; rw [c.1, h41, ac_n c.2]
    · rfl
  have k41 := ac_41.1
  have r0 : ∀ i, raT R i 40 0 = some 41 := fun i => by rw [raT_n (by omega), hR 40 (by omega) (by omega)]; rfl
  have lp := am_loop (P := fun i => am_ev (am_sem (d + 1)) 100 cX0_init 15 [.ref 40, .int (iI i)] [] (am_Sx (42 + 12 * i) (sl + 24 + 92 * i) (raT R i)) (dI E0) (none, am_Sx 330 (sl + 2232) R, dI E0)) (n := 24) ?_ ?_ (k := 0) (by omega)
  · refine mX0_init rfl rfl ?_
    simp (disch := first | omega | simp only [am_ci, am_cr, am_ca]) only [eX0_init_0, eX0_init_1, eX0_init_4, eX0_init_5, eX0_init_7, eX0_init_10, eX0_init_13, eX0_init_14, am_bi, Int.reduceEq, Int.reduceLT, Int.reduceLE, Int.reduceToNat, ite_self, Decidable.not_not, not_true_eq_false, not_false_eq_true, ↓reduceIte, am_ci, am_cr, am_ca, am_b0, am_b1, am_ts, am_tn, am_then_some, List.cons_append, List.nil_append, ne_eq, iI_lit, iI_add, iI_sub, iI_mul, iI_neg, iI_lt, iI_le, iI_eq, iI_in, iI_clz, dI_ap, dI_wr, setR_s, wE_R, setR_2, setR_n, setR_o, updI_s, updI_n, updI_2, tl_0, tl_1, tl_2, tl_3, tl_4, tl_5, tl_6, tl_7, tl_8, tl_9, tl_10, tl_11, tl_12, tl_13, tl_14, tl_15, tl_16, tn_3, tn_5, tn_13, tn_21, tn_29, tn_33, tn_37, tn_41, tn_45, tn_49, tn_53, tn_57, tn_61, tn_40, tn_p, tn_0, true_and, and_true, sk_0, sk_1, sk_2, sl_2, sk_3, sl_3, sk_4, sl_4, sk_5, sl_5, sk_6, sl_6, sk_7, sl_7, sk_8, sl_8, sk_9, sl_9, sk_10, sl_10, sk_11, sl_11, sk_12, sl_12, sk_13, sk_14, sl_14, sk_15, sk_40, sk_41, sl_41, sk_330, sl_330, sk_355, sk_356, sl_356, sk_357, sl_357, sk_358, sl_358, sk_359, sl_359, sk_360, sl_360, sk_361, sk_362, sl_362, sk_363, sk_376, sk_377, sl_377, sk_378, sk_379, sl_379, sk_380, sl_380, sk_381, sl_381, sk_382, sl_382, sk_383, sl_383, sk_384, sl_384, sk_385, sl_385, sk_386, sl_386, sk_387, sl_387, sk_388, sl_388, sk_389, sl_389, sk_390, sl_390, sk_391, sl_391, sk_392, sl_392, sk_393, sl_393, sk_394, sl_394, sr_0_0, sr_0_1, sr_0_2, sr_0_3, sr_0_4, sr_0_5, sr_0_6, sr_0_7, sr_0_8, sr_0_9, sr_1_0, sr_1_1, sr_1_2, sr_13_0, sr_15_0, sr_15_2, sr_40_0, sr_355_0, sr_355_1, sr_355_2, sr_355_3, sr_355_4, sr_355_5, sr_361_2, sr_361_5, sr_361_6, sr_363_0, sr_363_1, sr_376_0, sr_376_2, sr_378_0, sr_378_1, sr_378_2, sr_378_4, sr_378_8, sr_378_10, sr_378_11, sr_378_12, sr_378_14, sr_378_20, sr_378_21, sr_378_22, sr_378_23, sr_378_24, sr_378_25, sr_378_26, am_vs, sx_k, sx_x, sx_w, n1, zr_0, k41, e]
    repeat (refine ⟨by decide, ?_⟩)
    exact lp
  · intro i hi ih
    obtain ⟨g1, g2, g3⟩ := ac_lg i hi
    have lk := am_lg.k g1
    have nL := fun sl R => sx_n (sl := sl) (R := R) lk g2
    have HL := i_leagueN (d := d) (a := 42 + 12 * i) (sl := sl + 24 + 92 * i + 16) (R := raT R i) g1 (by omega) (fun b h1 h2 => by rw [raT_n (by omega), hR b (by omega) (by omega)])
    have ep : rfP (raT R i) 41 i (some (42 + 12 * i)) = raT R (i + 1) := by
      funext b k
      by_cases c : b = 41
      · subst c
        rw [rfP_s]
        unfold raT
        by_cases c2 : k = i
        · subst c2; rw [if_pos rfl, if_neg (by omega), h41, g3]
        · rw [if_neg c2]
          by_cases c3 : i ≤ k
          · rw [if_pos ⟨rfl, c3⟩, if_pos ⟨rfl, by omega⟩]
          · rw [if_neg (by omega), if_neg (by omega)]
      · rw [rfP_n c, raT_n c, raT_n c]
    rw [show ((i + 1 : Nat) : Int) = (i : Int) + 1 by omega, ← ep, show 42 + 12 * (i + 1) = 42 + 12 * i + 12 by omega, show sl + 24 + 92 * (i + 1) = sl + 24 + 92 * i + 16 + 76 by omega] at ih
    rw [eX0_init_15]
    simp (disch := first | omega | simp only [am_ci, am_cr, am_ca]) only [eX0_init_16, eX0_init_18, eX0_init_21, eX0_init_22, eX0_init_25, eX0_init_26, eX0_init_29, eX0_init_30, eX0_init_33, eX0_init_34, eX0_init_37, am_bi, Int.reduceEq, Int.reduceLT, Int.reduceLE, Int.reduceToNat, ite_self, Decidable.not_not, not_true_eq_false, not_false_eq_true, ↓reduceIte, am_ci, am_cr, am_ca, am_b0, am_b1, am_ts, am_tn, am_then_some, List.cons_append, List.nil_append, ne_eq, iI_lit, iI_add, iI_sub, iI_mul, iI_neg, iI_lt, iI_le, iI_eq, iI_in, iI_clz, dI_ap, dI_wr, setR_s, wE_R, setR_2, setR_n, setR_o, updI_s, updI_n, updI_2, tl_0, tl_1, tl_2, tl_3, tl_4, tl_5, tl_6, tl_7, tl_8, tl_9, tl_10, tl_11, tl_12, tl_13, tl_14, tl_15, tl_16, tn_3, tn_5, tn_13, tn_21, tn_29, tn_33, tn_37, tn_41, tn_45, tn_49, tn_53, tn_57, tn_61, tn_40, tn_p, tn_0, true_and, and_true, sk_0, sk_1, sk_2, sl_2, sk_3, sl_3, sk_4, sl_4, sk_5, sl_5, sk_6, sl_6, sk_7, sl_7, sk_8, sl_8, sk_9, sl_9, sk_10, sl_10, sk_11, sl_11, sk_12, sl_12, sk_13, sk_14, sl_14, sk_15, sk_40, sk_41, sl_41, sk_330, sl_330, sk_355, sk_356, sl_356, sk_357, sl_357, sk_358, sl_358, sk_359, sl_359, sk_360, sl_360, sk_361, sk_362, sl_362, sk_363, sk_376, sk_377, sl_377, sk_378, sk_379, sl_379, sk_380, sl_380, sk_381, sl_381, sk_382, sl_382, sk_383, sl_383, sk_384, sl_384, sk_385, sl_385, sk_386, sl_386, sk_387, sl_387, sk_388, sl_388, sk_389, sl_389, sk_390, sl_390, sk_391, sl_391, sk_392, sl_392, sk_393, sl_393, sk_394, sl_394, sr_0_0, sr_0_1, sr_0_2, sr_0_3, sr_0_4, sr_0_5, sr_0_6, sr_0_7, sr_0_8, sr_0_9, sr_1_0, sr_1_1, sr_1_2, sr_13_0, sr_15_0, sr_15_2, sr_40_0, sr_355_0, sr_355_1, sr_355_2, sr_355_3, sr_355_4, sr_355_5, sr_361_2, sr_361_5, sr_361_6, sr_363_0, sr_363_1, sr_376_0, sr_376_2, sr_378_0, sr_378_1, sr_378_2, sr_378_4, sr_378_8, sr_378_10, sr_378_11, sr_378_12, sr_378_14, sr_378_20, sr_378_21, sr_378_22, sr_378_23, sr_378_24, sr_378_25, sr_378_26, am_vs, sx_k, sx_x, sx_r, sx_l, sx_w, r0, nL, zr_0, am_nf, lk, HL, k41, ac_41.2]
    repeat (first | rw [if_pos (by omega)] | rw [if_neg (by omega)])
    exact ih
  · rw [e24, eX0_init_15]
    simp (disch := first | omega | simp only [am_ci, am_cr, am_ca]) only [eX0_init_16, eX0_init_18, eX0_init_21, eX0_init_22, eX0_init_25, eX0_init_26, eX0_init_29, eX0_init_30, eX0_init_33, eX0_init_34, eX0_init_37, eX0_init_40, am_bi, Int.reduceEq, Int.reduceLT, Int.reduceLE, Int.reduceToNat, ite_self, Decidable.not_not, not_true_eq_false, not_false_eq_true, ↓reduceIte, am_ci, am_cr, am_ca, am_b0, am_b1, am_ts, am_tn, am_then_some, List.cons_append, List.nil_append, ne_eq, iI_lit, iI_add, iI_sub, iI_mul, iI_neg, iI_lt, iI_le, iI_eq, iI_in, iI_clz, dI_ap, dI_wr, setR_s, wE_R, setR_2, setR_n, setR_o, updI_s, updI_n, updI_2, tl_0, tl_1, tl_2, tl_3, tl_4, tl_5, tl_6, tl_7, tl_8, tl_9, tl_10, tl_11, tl_12, tl_13, tl_14, tl_15, tl_16, tn_3, tn_5, tn_13, tn_21, tn_29, tn_33, tn_37, tn_41, tn_45, tn_49, tn_53, tn_57, tn_61, tn_40, tn_p, tn_0, true_and, and_true, sk_0, sk_1, sk_2, sl_2, sk_3, sl_3, sk_4, sl_4, sk_5, sl_5, sk_6, sl_6, sk_7, sl_7, sk_8, sl_8, sk_9, sl_9, sk_10, sl_10, sk_11, sl_11, sk_12, sl_12, sk_13, sk_14, sl_14, sk_15, sk_40, sk_41, sl_41, sk_330, sl_330, sk_355, sk_356, sl_356, sk_357, sl_357, sk_358, sl_358, sk_359, sl_359, sk_360, sl_360, sk_361, sk_362, sl_362, sk_363, sk_376, sk_377, sl_377, sk_378, sk_379, sl_379, sk_380, sl_380, sk_381, sl_381, sk_382, sl_382, sk_383, sl_383, sk_384, sl_384, sk_385, sl_385, sk_386, sl_386, sk_387, sl_387, sk_388, sl_388, sk_389, sl_389, sk_390, sl_390, sk_391, sl_391, sk_392, sl_392, sk_393, sl_393, sk_394, sl_394, sr_0_0, sr_0_1, sr_0_2, sr_0_3, sr_0_4, sr_0_5, sr_0_6, sr_0_7, sr_0_8, sr_0_9, sr_1_0, sr_1_1, sr_1_2, sr_13_0, sr_15_0, sr_15_2, sr_40_0, sr_355_0, sr_355_1, sr_355_2, sr_355_3, sr_355_4, sr_355_5, sr_361_2, sr_361_5, sr_361_6, sr_363_0, sr_363_1, sr_376_0, sr_376_2, sr_378_0, sr_378_1, sr_378_2, sr_378_4, sr_378_8, sr_378_10, sr_378_11, sr_378_12, sr_378_14, sr_378_20, sr_378_21, sr_378_22, sr_378_23, sr_378_24, sr_378_25, sr_378_26, am_vs]
    rw [if_pos (by omega)]
    trivial
