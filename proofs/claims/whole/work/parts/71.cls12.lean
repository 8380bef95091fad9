/-! ===== the class: dayAllSure, origins ===== -/
theorem tuW_p {sg : Nat → Int} {N : Nat} {w c : Nat → Int} {j p : Nat} (hp : p < N) : (tuW sg N w c (j + 1)).1 p = mxQ (tuW sg N w c j).1 sg p N := by
  rw [tuW_s]
  simp only
  unfold toK csT
  rw [if_pos hp, if_pos hp]
theorem mxL_0 {w : Nat → Int} : ∀ k, 0 ≤ mxL w k
  | 0 => by unfold mxL; omega
  | k + 1 => by
    have := mxL_0 (w := w) k
    rw [mxL_s]
    unfold mxI
    split <;> omega
theorem mxL_ge {w : Nat → Int} {p : Nat} : ∀ k, p < k → w p ≤ mxL w k
  | 0, h => by omega
  | k + 1, h => by
    rw [mxL_s]
    unfold mxI
    by_cases e : p = k
    · subst e; split <;> omega
    · have := mxL_ge (w := w) (p := p) k (by omega)
      split <;> omega
theorem c_sure_t {d k n : Nat} {E : Nat → Nat → Int} {t gs r cc : Nat → Int} (hF : fR E t) (hk : k ≤ 3) (hr : suR (t 0) (E 356) r) (v4 : Value) : ∃ E', (∀ b, (b < 356 ∨ 360 < b) → E' b = E b) ∧ am_ev (am_sem (d + 4)) 2 cX2_dayAllSure 8 [.ref 355, .int (iI n), .int (iI k), .int (iI 0), v4] [] am_S0 (dI E) (some (.int (iI (if 999 < mxL (tuW (sgT t gs) (t 0).toNat r cc k).1 (t 0).toNat then -1000000 else mxL (tuW (sgT t gs) (t 0).toNat r cc k).1 (t 0).toNat))), am_S0, dI E') := by
  have hF0 := hF
  obtain ⟨⟨hR, hD⟩, hw, hqT⟩ := hF
  have hb := hw.1.1
  have a0 := hb.2.1
  obtain ⟨N, hN⟩ := Int.eq_ofNat_of_zero_le a0.1
  rw [hN, show ((N : Int)).toNat = N from rfl]
  obtain ⟨E', ⟨hE1, hE2⟩, he⟩ := am_fwd (X := Nat → Nat → Int) (I := fun j x => (∀ b, (b < 356 ∨ 360 < b) → x b = E b) ∧ suR (t 0) (x 356) (tuW (sgT t gs) N r cc j).1) (ev := fun j x R => am_ev (am_sem (d + 4)) 2 cX2_dayAllSure 8 [.ref 355, .int (iI n), .int (iI k), .int (iI j), v4] [] am_S0 (dI x) R) (n := k) (by
    rintro j x hj ⟨hx1, hx2⟩
    obtain ⟨y, hy1, hy2, hy3⟩ := c_hearFromAll (d := d) (gs := gs) (fR_fr hF0 (fun b h1 h2 => hx1 b (by omega))) hx2
    rw [hN, show ((N : Int)).toNat = N from rfl] at hy2
    refine ⟨y, ⟨fun b hb => by rw [hy1 b hb, hx1 b hb], fun p hp => ?_⟩, fun R ih => ?_⟩
    · rw [tuW_p (by omega)]
      exact hy2 p (by omega)
    · rw [eX2_dayAllSure_8]
      simp (disch := first | omega | simp only [am_ci, am_cr, am_ca]) only [eX2_dayAllSure_9, eX2_dayAllSure_10, eX2_dayAllSure_13, eX2_dayAllSure_14, eX2_dayAllSure_17, eX2_dayAllSure_20, am_bi, Int.reduceEq, Int.reduceLT, Int.reduceLE, Int.reduceToNat, ite_self, Decidable.not_not, not_true_eq_false, not_false_eq_true, ↓reduceIte, am_ci, am_cr, am_ca, am_b0, am_b1, am_ts, am_tn, am_then_some, List.cons_append, List.nil_append, ne_eq, iI_lit, iI_add, iI_sub, iI_mul, iI_neg, iI_lt, iI_le, iI_eq, iI_in, iI_clz, dI_ap, dI_wr, setR_s, wE_R, setR_2, setR_n, setR_o, updI_s, updI_n, updI_2, tl_0, tl_1, tl_2, tl_3, tl_4, tl_5, tl_6, tl_7, tl_8, tl_9, tl_10, tl_11, tl_12, tl_13, tl_14, tl_15, tl_16, tn_3, tn_5, tn_13, tn_21, tn_29, tn_33, tn_37, tn_41, tn_45, tn_49, tn_53, tn_57, tn_61, tn_40, tn_p, tn_0, true_and, and_true, sk_0, sk_1, sk_2, sl_2, sk_3, sl_3, sk_4, sl_4, sk_5, sl_5, sk_6, sl_6, sk_7, sl_7, sk_8, sl_8, sk_9, sl_9, sk_10, sl_10, sk_11, sl_11, sk_12, sl_12, sk_13, sk_14, sl_14, sk_15, sk_40, sk_41, sl_41, sk_330, sl_330, sk_355, sk_356, sl_356, sk_357, sl_357, sk_358, sl_358, sk_359, sl_359, sk_360, sl_360, sk_361, sk_362, sl_362, sk_363, sk_376, sk_377, sl_377, sk_378, sk_379, sl_379, sk_380, sl_380, sk_381, sl_381, sk_382, sl_382, sk_383, sl_383, sk_384, sl_384, sk_385, sl_385, sk_386, sl_386, sk_387, sl_387, sk_388, sl_388, sk_389, sl_389, sk_390, sl_390, sk_391, sl_391, sk_392, sl_392, sk_393, sl_393, sk_394, sl_394, sr_0_0, sr_0_1, sr_0_2, sr_0_3, sr_0_4, sr_0_5, sr_0_6, sr_0_7, sr_0_8, sr_0_9, sr_1_0, sr_1_1, sr_1_2, sr_13_0, sr_15_0, sr_15_2, sr_40_0, sr_355_0, sr_355_1, sr_355_2, sr_355_3, sr_355_4, sr_355_5, sr_361_2, sr_361_5, sr_361_6, sr_363_0, sr_363_1, sr_376_0, sr_376_2, sr_378_0, sr_378_1, sr_378_2, sr_378_4, sr_378_8, sr_378_10, sr_378_11, sr_378_12, sr_378_14, sr_378_20, sr_378_21, sr_378_22, sr_378_23, sr_378_24, sr_378_25, sr_378_26, am_vs, hy3]
      rw [if_neg (by omega)]
      exact ih) (k := 0) (x := E) (by omega) ⟨fun _ _ => rfl, hr⟩
  refine ⟨E', hE1, he _ ?_⟩
  have e0 : E' 28 0 = (N : Int) := by rw [hE1 28 (by omega), hR.1.1, hN]
  rw [eX2_dayAllSure_8]
  simp (disch := first | omega | simp only [am_ci, am_cr, am_ca]) only [eX2_dayAllSure_9, eX2_dayAllSure_10, eX2_dayAllSure_13, eX2_dayAllSure_14, eX2_dayAllSure_17, eX2_dayAllSure_20, eX2_dayAllSure_23, eX2_dayAllSure_24, eX2_dayAllSure_25, eX2_dayAllSure_26, am_bi, Int.reduceEq, Int.reduceLT, Int.reduceLE, Int.reduceToNat, ite_self, Decidable.not_not, not_true_eq_false, not_false_eq_true, ↓reduceIte, am_ci, am_cr, am_ca, am_b0, am_b1, am_ts, am_tn, am_then_some, List.cons_append, List.nil_append, ne_eq, iI_lit, iI_add, iI_sub, iI_mul, iI_neg, iI_lt, iI_le, iI_eq, iI_in, iI_clz, dI_ap, dI_wr, setR_s, wE_R, setR_2, setR_n, setR_o, updI_s, updI_n, updI_2, tl_0, tl_1, tl_2, tl_3, tl_4, tl_5, tl_6, tl_7, tl_8, tl_9, tl_10, tl_11, tl_12, tl_13, tl_14, tl_15, tl_16, tn_3, tn_5, tn_13, tn_21, tn_29, tn_33, tn_37, tn_41, tn_45, tn_49, tn_53, tn_57, tn_61, tn_40, tn_p, tn_0, true_and, and_true, sk_0, sk_1, sk_2, sl_2, sk_3, sl_3, sk_4, sl_4, sk_5, sl_5, sk_6, sl_6, sk_7, sl_7, sk_8, sl_8, sk_9, sl_9, sk_10, sl_10, sk_11, sl_11, sk_12, sl_12, sk_13, sk_14, sl_14, sk_15, sk_40, sk_41, sl_41, sk_330, sl_330, sk_355, sk_356, sl_356, sk_357, sl_357, sk_358, sl_358, sk_359, sl_359, sk_360, sl_360, sk_361, sk_362, sl_362, sk_363, sk_376, sk_377, sl_377, sk_378, sk_379, sl_379, sk_380, sl_380, sk_381, sl_381, sk_382, sl_382, sk_383, sl_383, sk_384, sl_384, sk_385, sl_385, sk_386, sl_386, sk_387, sl_387, sk_388, sl_388, sk_389, sl_389, sk_390, sl_390, sk_391, sl_391, sk_392, sl_392, sk_393, sl_393, sk_394, sl_394, sr_0_0, sr_0_1, sr_0_2, sr_0_3, sr_0_4, sr_0_5, sr_0_6, sr_0_7, sr_0_8, sr_0_9, sr_1_0, sr_1_1, sr_1_2, sr_13_0, sr_15_0, sr_15_2, sr_40_0, sr_355_0, sr_355_1, sr_355_2, sr_355_3, sr_355_4, sr_355_5, sr_361_2, sr_361_5, sr_361_6, sr_363_0, sr_363_1, sr_376_0, sr_376_2, sr_378_0, sr_378_1, sr_378_2, sr_378_4, sr_378_8, sr_378_10, sr_378_11, sr_378_12, sr_378_14, sr_378_20, sr_378_21, sr_378_22, sr_378_23, sr_378_24, sr_378_25, sr_378_26, am_vs]
  rw [if_pos (by omega)]
  generalize (tuW (sgT t gs) N r cc k).1 = w at *
  refine am_loop (P := fun p => am_ev (am_sem (d + 4)) 2 cX2_dayAllSure 28 [.ref 355, .int (iI n), .int (iI k), .int (iI (mnI (mxL w p) 1000000)), .int (iI p)] [] am_S0 (dI E') (some (.int (iI (if 999 < mxL w N then -1000000 else mxL w N))), am_S0, dI E')) (n := N) ?_ ?_ (k := 0) (by omega)
  · intro p hp ih
    have wp := hE2 p (by omega)
    have m0 := mxL_0 (w := w) p
    have b1 : 0 ≤ mnI (mxL w p) 1000000 ∧ mnI (mxL w p) 1000000 ≤ 1000000 := by unfold mnI; split <;> omega
    have b2 : 0 ≤ E' 356 p ∧ E' 356 p ≤ 1000000 := by rw [wp.1]; unfold mnI; split <;> omega
    rw [mxL_s, ← mn_mx, ← wp.1] at ih
    rw [eX2_dayAllSure_28]
    simp (disch := first | omega | simp only [am_ci, am_cr, am_ca]) only [eX2_dayAllSure_30, eX2_dayAllSure_31, eX2_dayAllSure_34, eX2_dayAllSure_37, eX2_dayAllSure_40, eX2_dayAllSure_41, eX2_dayAllSure_42, eX2_dayAllSure_45, eX2_dayAllSure_47, eX2_dayAllSure_48, eX2_dayAllSure_51, eX2_dayAllSure_52, eX2_dayAllSure_55, am_bi, Int.reduceEq, Int.reduceLT, Int.reduceLE, Int.reduceToNat, ite_self, Decidable.not_not, not_true_eq_false, not_false_eq_true, ↓reduceIte, am_ci, am_cr, am_ca, am_b0, am_b1, am_ts, am_tn, am_then_some, List.cons_append, List.nil_append, ne_eq, iI_lit, iI_add, iI_sub, iI_mul, iI_neg, iI_lt, iI_le, iI_eq, iI_in, iI_clz, dI_ap, dI_wr, setR_s, wE_R, setR_2, setR_n, setR_o, updI_s, updI_n, updI_2, tl_0, tl_1, tl_2, tl_3, tl_4, tl_5, tl_6, tl_7, tl_8, tl_9, tl_10, tl_11, tl_12, tl_13, tl_14, tl_15, tl_16, tn_3, tn_5, tn_13, tn_21, tn_29, tn_33, tn_37, tn_41, tn_45, tn_49, tn_53, tn_57, tn_61, tn_40, tn_p, tn_0, true_and, and_true, sk_0, sk_1, sk_2, sl_2, sk_3, sl_3, sk_4, sl_4, sk_5, sl_5, sk_6, sl_6, sk_7, sl_7, sk_8, sl_8, sk_9, sl_9, sk_10, sl_10, sk_11, sl_11, sk_12, sl_12, sk_13, sk_14, sl_14, sk_15, sk_40, sk_41, sl_41, sk_330, sl_330, sk_355, sk_356, sl_356, sk_357, sl_357, sk_358, sl_358, sk_359, sl_359, sk_360, sl_360, sk_361, sk_362, sl_362, sk_363, sk_376, sk_377, sl_377, sk_378, sk_379, sl_379, sk_380, sl_380, sk_381, sl_381, sk_382, sl_382, sk_383, sl_383, sk_384, sl_384, sk_385, sl_385, sk_386, sl_386, sk_387, sl_387, sk_388, sl_388, sk_389, sl_389, sk_390, sl_390, sk_391, sl_391, sk_392, sl_392, sk_393, sl_393, sk_394, sl_394, sr_0_0, sr_0_1, sr_0_2, sr_0_3, sr_0_4, sr_0_5, sr_0_6, sr_0_7, sr_0_8, sr_0_9, sr_1_0, sr_1_1, sr_1_2, sr_13_0, sr_15_0, sr_15_2, sr_40_0, sr_355_0, sr_355_1, sr_355_2, sr_355_3, sr_355_4, sr_355_5, sr_361_2, sr_361_5, sr_361_6, sr_363_0, sr_363_1, sr_376_0, sr_376_2, sr_378_0, sr_378_1, sr_378_2, sr_378_4, sr_378_8, sr_378_10, sr_378_11, sr_378_12, sr_378_14, sr_378_20, sr_378_21, sr_378_22, sr_378_23, sr_378_24, sr_378_25, sr_378_26, am_vs, am_lg28.k, e0, iI_ite]
    rw [if_neg (by omega)]
    exact ih
  · have m0 := mxL_0 (w := w) N
    rw [eX2_dayAllSure_28]
    by_cases c : 999 < mxL w N
    · have c2 : 999 < mnI (mxL w N) 1000000 ∧ mnI (mxL w N) 1000000 ≤ 1000000 := by unfold mnI; split <;> omega
      rw [if_pos c]
      simp (disch := first | omega | simp only [am_ci, am_cr, am_ca]) only [eX2_dayAllSure_30, eX2_dayAllSure_31, eX2_dayAllSure_34, eX2_dayAllSure_37, eX2_dayAllSure_40, eX2_dayAllSure_41, eX2_dayAllSure_42, eX2_dayAllSure_45, eX2_dayAllSure_47, eX2_dayAllSure_48, eX2_dayAllSure_51, eX2_dayAllSure_52, eX2_dayAllSure_55, eX2_dayAllSure_58, eX2_dayAllSure_59, eX2_dayAllSure_62, eX2_dayAllSure_65, eX2_dayAllSure_67, eX2_dayAllSure_70, eX2_dayAllSure_71, am_bi, Int.reduceEq, Int.reduceLT, Int.reduceLE, Int.reduceToNat, ite_self, Decidable.not_not, not_true_eq_false, not_false_eq_true, ↓reduceIte, am_ci, am_cr, am_ca, am_b0, am_b1, am_ts, am_tn, am_then_some, List.cons_append, List.nil_append, ne_eq, iI_lit, iI_add, iI_sub, iI_mul, iI_neg, iI_lt, iI_le, iI_eq, iI_in, iI_clz, dI_ap, dI_wr, setR_s, wE_R, setR_2, setR_n, setR_o, updI_s, updI_n, updI_2, tl_0, tl_1, tl_2, tl_3, tl_4, tl_5, tl_6, tl_7, tl_8, tl_9, tl_10, tl_11, tl_12, tl_13, tl_14, tl_15, tl_16, tn_3, tn_5, tn_13, tn_21, tn_29, tn_33, tn_37, tn_41, tn_45, tn_49, tn_53, tn_57, tn_61, tn_40, tn_p, tn_0, true_and, and_true, sk_0, sk_1, sk_2, sl_2, sk_3, sl_3, sk_4, sl_4, sk_5, sl_5, sk_6, sl_6, sk_7, sl_7, sk_8, sl_8, sk_9, sl_9, sk_10, sl_10, sk_11, sl_11, sk_12, sl_12, sk_13, sk_14, sl_14, sk_15, sk_40, sk_41, sl_41, sk_330, sl_330, sk_355, sk_356, sl_356, sk_357, sl_357, sk_358, sl_358, sk_359, sl_359, sk_360, sl_360, sk_361, sk_362, sl_362, sk_363, sk_376, sk_377, sl_377, sk_378, sk_379, sl_379, sk_380, sl_380, sk_381, sl_381, sk_382, sl_382, sk_383, sl_383, sk_384, sl_384, sk_385, sl_385, sk_386, sl_386, sk_387, sl_387, sk_388, sl_388, sk_389, sl_389, sk_390, sl_390, sk_391, sl_391, sk_392, sl_392, sk_393, sl_393, sk_394, sl_394, sr_0_0, sr_0_1, sr_0_2, sr_0_3, sr_0_4, sr_0_5, sr_0_6, sr_0_7, sr_0_8, sr_0_9, sr_1_0, sr_1_1, sr_1_2, sr_13_0, sr_15_0, sr_15_2, sr_40_0, sr_355_0, sr_355_1, sr_355_2, sr_355_3, sr_355_4, sr_355_5, sr_361_2, sr_361_5, sr_361_6, sr_363_0, sr_363_1, sr_376_0, sr_376_2, sr_378_0, sr_378_1, sr_378_2, sr_378_4, sr_378_8, sr_378_10, sr_378_11, sr_378_12, sr_378_14, sr_378_20, sr_378_21, sr_378_22, sr_378_23, sr_378_24, sr_378_25, sr_378_26, am_vs, am_lg28.k, e0]
      repeat (first | rw [if_pos (by omega)] | rw [if_neg (by omega)])
      trivial
    · have c2 : mnI (mxL w N) 1000000 = mxL w N := by unfold mnI; rw [if_pos (by omega)]
      rw [if_neg c, c2]
      simp (disch := first | omega | simp only [am_ci, am_cr, am_ca]) only [eX2_dayAllSure_30, eX2_dayAllSure_31, eX2_dayAllSure_34, eX2_dayAllSure_37, eX2_dayAllSure_40, eX2_dayAllSure_41, eX2_dayAllSure_42, eX2_dayAllSure_45, eX2_dayAllSure_47, eX2_dayAllSure_48, eX2_dayAllSure_51, eX2_dayAllSure_52, eX2_dayAllSure_55, eX2_dayAllSure_58, eX2_dayAllSure_59, eX2_dayAllSure_62, eX2_dayAllSure_65, eX2_dayAllSure_67, eX2_dayAllSure_70, eX2_dayAllSure_71, am_bi, Int.reduceEq, Int.reduceLT, Int.reduceLE, Int.reduceToNat, ite_self, Decidable.not_not, not_true_eq_false, not_false_eq_true, ↓reduceIte, am_ci, am_cr, am_ca, am_b0, am_b1, am_ts, am_tn, am_then_some, List.cons_append, List.nil_append, ne_eq, iI_lit, iI_add, iI_sub, iI_mul, iI_neg, iI_lt, iI_le, iI_eq, iI_in, iI_clz, dI_ap, dI_wr, setR_s, wE_R, setR_2, setR_n, setR_o, updI_s, updI_n, updI_2, tl_0, tl_1, tl_2, tl_3, tl_4, tl_5, tl_6, tl_7, tl_8, tl_9, tl_10, tl_11, tl_12, tl_13, tl_14, tl_15, tl_16, tn_3, tn_5, tn_13, tn_21, tn_29, tn_33, tn_37, tn_41, tn_45, tn_49, tn_53, tn_57, tn_61, tn_40, tn_p, tn_0, true_and, and_true, sk_0, sk_1, sk_2, sl_2, sk_3, sl_3, sk_4, sl_4, sk_5, sl_5, sk_6, sl_6, sk_7, sl_7, sk_8, sl_8, sk_9, sl_9, sk_10, sl_10, sk_11, sl_11, sk_12, sl_12, sk_13, sk_14, sl_14, sk_15, sk_40, sk_41, sl_41, sk_330, sl_330, sk_355, sk_356, sl_356, sk_357, sl_357, sk_358, sl_358, sk_359, sl_359, sk_360, sl_360, sk_361, sk_362, sl_362, sk_363, sk_376, sk_377, sl_377, sk_378, sk_379, sl_379, sk_380, sl_380, sk_381, sl_381, sk_382, sl_382, sk_383, sl_383, sk_384, sl_384, sk_385, sl_385, sk_386, sl_386, sk_387, sl_387, sk_388, sl_388, sk_389, sl_389, sk_390, sl_390, sk_391, sl_391, sk_392, sl_392, sk_393, sl_393, sk_394, sl_394, sr_0_0, sr_0_1, sr_0_2, sr_0_3, sr_0_4, sr_0_5, sr_0_6, sr_0_7, sr_0_8, sr_0_9, sr_1_0, sr_1_1, sr_1_2, sr_13_0, sr_15_0, sr_15_2, sr_40_0, sr_355_0, sr_355_1, sr_355_2, sr_355_3, sr_355_4, sr_355_5, sr_361_2, sr_361_5, sr_361_6, sr_363_0, sr_363_1, sr_376_0, sr_376_2, sr_378_0, sr_378_1, sr_378_2, sr_378_4, sr_378_8, sr_378_10, sr_378_11, sr_378_12, sr_378_14, sr_378_20, sr_378_21, sr_378_22, sr_378_23, sr_378_24, sr_378_25, sr_378_26, am_vs, am_lg28.k, e0]
      repeat (first | rw [if_pos (by omega)] | rw [if_neg (by omega)])
      trivial
theorem tuW_far {sg : Nat → Int} {N : Nat} {w c : Nat → Int} (hd : diag sg) (hB : hB sg) (hN : N ≤ 6) {p : Nat} (hp : p < N) (hw : ∀ q, q < N → 0 ≤ w q) (hf : 1000000 ≤ w p) : ∀ j, 1000000 ≤ (tuW sg N w c j).1 p ∧ ∀ q, q < N → 0 ≤ (tuW sg N w c j).1 q
  | 0 => ⟨hf, hw⟩
  | j + 1 => by
    obtain ⟨i1, i2⟩ := tuW_far (c := c) hd hB hN hp hw hf j
    have ge : ∀ k, k ≤ N → p < k → 1000000 ≤ mxQ (tuW sg N w c j).1 sg p k := by
      intro k
      induction k with
      | zero => intro _ h; omega
      | succ k ih =>
        intro hk hpk
        rw [mxQ_s]
        unfold mxI
        by_cases e : p = k
        · subst e
          rw [hd p (by omega)]
          split <;> omega
        · have := ih (by omega) (by omega)
          split <;> omega
    refine ⟨by rw [tuW_p hp]; exact ge N (by omega) hp, fun q hq => ?_⟩
    rw [tuW_p hq]
    exact mxQ_0 hN (by omega) i2 hB N (by omega)
theorem c_dayAllSure {d k n : Nat} {E : Nat → Nat → Int} {t gs wo cc : Nat → Int} (hF : fR E t) (hn : n < 4) (hk : k ≤ 3) (hwo : woR t 0 n wo) : ∃ E', (∀ b, (b < 356 ∨ 360 < b) → E' b = E b) ∧ am_sem (d + 5) 22 [.ref 355, .int (iI n), .int (iI k)] am_S0 (dI E) = some (some (.int (iI (suV wo (sgT t gs) (t 0).toNat k cc))), am_S0, dI E') := by
  have hF0 := hF
  obtain ⟨⟨hR, hD⟩, hw, hqT⟩ := hF
  have hb := hw.1.1
  have a0 := hb.2.1
  have hDB := (foD_p hw hqT 0 hn).1
  obtain ⟨g, hg, H1'⟩ := c_foretell (d := d + 1) (m := 0) (n := n) hF0 (by omega) hn
  have H1 : am_sem (d + 4) 16 [.ref 355, .int (iI n), .int (iI 0)] am_S0 (dI E) = some (none, am_S0, dI (setR E 356 g)) := H1'
  by_cases hA : ∀ p : Nat, (p : Int) < t 0 → foD t 0 n p ≤ 150
  · have hA2 : ∀ p, p < (t 0).toNat → 0 ≤ wo p := fun p hp => by
      have := hDB p (by omega)
      rw [(hwo p (by omega)).1 (hA p (by omega))]; omega
    obtain ⟨E', hE, T⟩ := c_sure_t (d := d) (k := k) (n := n) (E := setR E 356 g) (r := wo) (gs := gs) (cc := cc) (fR_s hF0 (by omega)) hk (fun p hp => by
      have x1 := hDB p (by omega)
      have x2 := hA p hp
      rw [setR_s, hg p hp, (hwo p (by omega)).1 x2]
      unfold foV mnI
      rw [if_neg (by omega), if_pos (by omega)]
      exact ⟨rfl, x1.1⟩) (.retAddr 0)
    refine ⟨E', fun b hb => by rw [hE b hb, setR_n (by omega)], mX2_dayAllSure rfl rfl ?_⟩
    unfold suV
    rw [if_pos hA2]
    simp (disch := first | omega | simp only [am_ci, am_cr, am_ca]) only [eX2_dayAllSure_0, eX2_dayAllSure_1, eX2_dayAllSure_2, eX2_dayAllSure_3, eX2_dayAllSure_6, eX2_dayAllSure_7, am_bi, Int.reduceEq, Int.reduceLT, Int.reduceLE, Int.reduceToNat, ite_self, Decidable.not_not, not_true_eq_false, not_false_eq_true, ↓reduceIte, am_ci, am_cr, am_ca, am_b0, am_b1, am_ts, am_tn, am_then_some, List.cons_append, List.nil_append, ne_eq, iI_lit, iI_add, iI_sub, iI_mul, iI_neg, iI_lt, iI_le, iI_eq, iI_in, iI_clz, dI_ap, dI_wr, setR_s, wE_R, setR_2, setR_n, setR_o, updI_s, updI_n, updI_2, tl_0, tl_1, tl_2, tl_3, tl_4, tl_5, tl_6, tl_7, tl_8, tl_9, tl_10, tl_11, tl_12, tl_13, tl_14, tl_15, tl_16, tn_3, tn_5, tn_13, tn_21, tn_29, tn_33, tn_37, tn_41, tn_45, tn_49, tn_53, tn_57, tn_61, tn_40, tn_p, tn_0, true_and, and_true, sk_0, sk_1, sk_2, sl_2, sk_3, sl_3, sk_4, sl_4, sk_5, sl_5, sk_6, sl_6, sk_7, sl_7, sk_8, sl_8, sk_9, sl_9, sk_10, sl_10, sk_11, sl_11, sk_12, sl_12, sk_13, sk_14, sl_14, sk_15, sk_40, sk_41, sl_41, sk_330, sl_330, sk_355, sk_356, sl_356, sk_357, sl_357, sk_358, sl_358, sk_359, sl_359, sk_360, sl_360, sk_361, sk_362, sl_362, sk_363, sk_376, sk_377, sl_377, sk_378, sk_379, sl_379, sk_380, sl_380, sk_381, sl_381, sk_382, sl_382, sk_383, sl_383, sk_384, sl_384, sk_385, sl_385, sk_386, sl_386, sk_387, sl_387, sk_388, sl_388, sk_389, sl_389, sk_390, sl_390, sk_391, sl_391, sk_392, sl_392, sk_393, sl_393, sk_394, sl_394, sr_0_0, sr_0_1, sr_0_2, sr_0_3, sr_0_4, sr_0_5, sr_0_6, sr_0_7, sr_0_8, sr_0_9, sr_1_0, sr_1_1, sr_1_2, sr_13_0, sr_15_0, sr_15_2, sr_40_0, sr_355_0, sr_355_1, sr_355_2, sr_355_3, sr_355_4, sr_355_5, sr_361_2, sr_361_5, sr_361_6, sr_363_0, sr_363_1, sr_376_0, sr_376_2, sr_378_0, sr_378_1, sr_378_2, sr_378_4, sr_378_8, sr_378_10, sr_378_11, sr_378_12, sr_378_14, sr_378_20, sr_378_21, sr_378_22, sr_378_23, sr_378_24, sr_378_25, sr_378_26, am_vs, H1]
    exact T
  · obtain ⟨p, hp, hpD⟩ : ∃ p : Nat, (p : Int) < t 0 ∧ 150 < foD t 0 n p := by
      refine Classical.byContradiction fun hx => hA fun p hp => ?_
      refine Classical.byContradiction fun hy => hx ⟨p, hp, by omega⟩
    have hA2 : ¬ ∀ p, p < (t 0).toNat → 0 ≤ wo p := fun h => by
      have := h p (by omega)
      have := (hwo p (by omega)).2 hpD
      omega
    obtain ⟨E', hE, T⟩ := c_sure_t (d := d) (k := k) (n := n) (E := setR E 356 g) (r := fun p => foV (foD t 0 n p)) (gs := gs) (cc := cc) (fR_s hF0 (by omega)) hk (fun p hp => by
      have x1 := hDB p (by omega)
      rw [setR_s, hg p hp]
      show foV (foD t 0 n p) = mnI (foV (foD t 0 n p)) 1000000 ∧ 0 ≤ foV (foD t 0 n p)
      unfold foV mnI
      refine ⟨?_, ?_⟩ <;> (repeat' split) <;> omega) (.retAddr 0)
    refine ⟨E', fun b hb => by rw [hE b hb, setR_n (by omega)], mX2_dayAllSure rfl rfl ?_⟩
    unfold suV
    rw [if_neg hA2]
    obtain ⟨s1, s2, -, -⟩ := sg_p hb hqT.1.2.2.2.1 gs
    have far := (tuW_far (sg := sgT t gs) (N := (t 0).toNat) (w := fun p => foV (foD t 0 n p)) (c := cc) s1 s2 (by omega) (p := p) (by omega) (fun q hq => by
      have x1 := hDB q (by omega)
      show 0 ≤ foV (foD t 0 n q)
      unfold foV
      split <;> omega) (by
      show 1000000 ≤ foV (foD t 0 n p)
      unfold foV
      rw [if_pos hpD]; omega) k).1
    have ml := mxL_ge (w := (tuW (sgT t gs) (t 0).toNat (fun p => foV (foD t 0 n p)) cc k).1) (p := p) (t 0).toNat (by omega)
    rw [if_pos (by omega)] at T
    simp (disch := first | omega | simp only [am_ci, am_cr, am_ca]) only [eX2_dayAllSure_0, eX2_dayAllSure_1, eX2_dayAllSure_2, eX2_dayAllSure_3, eX2_dayAllSure_6, eX2_dayAllSure_7, am_bi, Int.reduceEq, Int.reduceLT, Int.reduceLE, Int.reduceToNat, ite_self, Decidable.not_not, not_true_eq_false, not_false_eq_true, ↓reduceIte, am_ci, am_cr, am_ca, am_b0, am_b1, am_ts, am_tn, am_then_some, List.cons_append, List.nil_append, ne_eq, iI_lit, iI_add, iI_sub, iI_mul, iI_neg, iI_lt, iI_le, iI_eq, iI_in, iI_clz, dI_ap, dI_wr, setR_s, wE_R, setR_2, setR_n, setR_o, updI_s, updI_n, updI_2, tl_0, tl_1, tl_2, tl_3, tl_4, tl_5, tl_6, tl_7, tl_8, tl_9, tl_10, tl_11, tl_12, tl_13, tl_14, tl_15, tl_16, tn_3, tn_5, tn_13, tn_21, tn_29, tn_33, tn_37, tn_41, tn_45, tn_49, tn_53, tn_57, tn_61, tn_40, tn_p, tn_0, true_and, and_true, sk_0, sk_1, sk_2, sl_2, sk_3, sl_3, sk_4, sl_4, sk_5, sl_5, sk_6, sl_6, sk_7, sl_7, sk_8, sl_8, sk_9, sl_9, sk_10, sl_10, sk_11, sl_11, sk_12, sl_12, sk_13, sk_14, sl_14, sk_15, sk_40, sk_41, sl_41, sk_330, sl_330, sk_355, sk_356, sl_356, sk_357, sl_357, sk_358, sl_358, sk_359, sl_359, sk_360, sl_360, sk_361, sk_362, sl_362, sk_363, sk_376, sk_377, sl_377, sk_378, sk_379, sl_379, sk_380, sl_380, sk_381, sl_381, sk_382, sl_382, sk_383, sl_383, sk_384, sl_384, sk_385, sl_385, sk_386, sl_386, sk_387, sl_387, sk_388, sl_388, sk_389, sl_389, sk_390, sl_390, sk_391, sl_391, sk_392, sl_392, sk_393, sl_393, sk_394, sl_394, sr_0_0, sr_0_1, sr_0_2, sr_0_3, sr_0_4, sr_0_5, sr_0_6, sr_0_7, sr_0_8, sr_0_9, sr_1_0, sr_1_1, sr_1_2, sr_13_0, sr_15_0, sr_15_2, sr_40_0, sr_355_0, sr_355_1, sr_355_2, sr_355_3, sr_355_4, sr_355_5, sr_361_2, sr_361_5, sr_361_6, sr_363_0, sr_363_1, sr_376_0, sr_376_2, sr_378_0, sr_378_1, sr_378_2, sr_378_4, sr_378_8, sr_378_10, sr_378_11, sr_378_12, sr_378_14, sr_378_20, sr_378_21, sr_378_22, sr_378_23, sr_378_24, sr_378_25, sr_378_26, am_vs, H1]
    exact T
/-- the pairs that fit -/
theorem beB_iff {f sg : Nat → Int} {A p : Nat} {D : Int} : ∀ k, beB f sg A p D k = 1 ↔ ∀ j, j < k → 0 ≤ D ∧ D + sg (6 * p + (f (A + 2 * j)).toNat) = f (A + 2 * j + 1)
  | 0 => ⟨fun _ j hj => by omega, fun _ => rfl⟩
  | k + 1 => by
    have ih := beB_iff (f := f) (sg := sg) (A := A) (p := p) (D := D) k
    rw [beB_s]
    constructor
    · intro h
      by_cases c : beB f sg A p D k = 1 ∧ 0 ≤ D ∧ D + sg (6 * p + (f (A + 2 * k)).toNat) = f (A + 2 * k + 1)
      · exact all_s.mpr ⟨ih.mp c.1, c.2⟩
      · rw [if_neg c] at h; omega
    · intro h
      have h2 := all_s.mp h
      rw [if_pos ⟨ih.mpr h2.1, h2.2⟩]
theorem c_fits {d r i n q N : Nat} {E : Nat → Nat → Int} {sg : Nat → Int} (hr : r < 8) (hi : i + 2 * n ≤ 40) (hN : N ≤ 6) (hB : hB sg) (hit : ∀ k, k < 40 → E (5 + r) k = E 381 (40 * r + k)) (hP : ∀ k, k < n → bePr (E 381) (N : Int) (40 * r + i) k) (hq : q < 6) (hg : ∀ p, p < 6 → E 360 p = sg (6 * q + p)) : am_sem (d + 1) 26 [.ref 355, .ref (5 + r), .int (iI i), .int (iI n)] am_S0 (dI E) = some (some (.int (if beB (E 381) sg (40 * r + i) q (beD (E 381) sg (40 * r + i) q n) n = 1 then 1 else 0)), am_S0, dI E) := by
  have ka := am_it r hr
  refine mX2_fits rfl rfl am_bb ?_
  simp (disch := first | omega | simp only [am_ci, am_cr, am_ca]) only [eX2_fits_0, eX2_fits_2, eX2_fits_4, eX2_fits_5, am_bi, Int.reduceEq, Int.reduceLT, Int.reduceLE, Int.reduceToNat, ite_self, Decidable.not_not, not_true_eq_false, not_false_eq_true, ↓reduceIte, am_ci, am_cr, am_ca, am_b0, am_b1, am_ts, am_tn, am_then_some, List.cons_append, List.nil_append, ne_eq, iI_lit, iI_add, iI_sub, iI_mul, iI_neg, iI_lt, iI_le, iI_eq, iI_in, iI_clz, dI_ap, dI_wr, setR_s, wE_R, setR_2, setR_n, setR_o, updI_s, updI_n, updI_2, tl_0, tl_1, tl_2, tl_3, tl_4, tl_5, tl_6, tl_7, tl_8, tl_9, tl_10, tl_11, tl_12, tl_13, tl_14, tl_15, tl_16, tn_3, tn_5, tn_13, tn_21, tn_29, tn_33, tn_37, tn_41, tn_45, tn_49, tn_53, tn_57, tn_61, tn_40, tn_p, tn_0, true_and, and_true, sk_0, sk_1, sk_2, sl_2, sk_3, sl_3, sk_4, sl_4, sk_5, sl_5, sk_6, sl_6, sk_7, sl_7, sk_8, sl_8, sk_9, sl_9, sk_10, sl_10, sk_11, sl_11, sk_12, sl_12, sk_13, sk_14, sl_14, sk_15, sk_40, sk_41, sl_41, sk_330, sl_330, sk_355, sk_356, sl_356, sk_357, sl_357, sk_358, sl_358, sk_359, sl_359, sk_360, sl_360, sk_361, sk_362, sl_362, sk_363, sk_376, sk_377, sl_377, sk_378, sk_379, sl_379, sk_380, sl_380, sk_381, sl_381, sk_382, sl_382, sk_383, sl_383, sk_384, sl_384, sk_385, sl_385, sk_386, sl_386, sk_387, sl_387, sk_388, sl_388, sk_389, sl_389, sk_390, sl_390, sk_391, sl_391, sk_392, sl_392, sk_393, sl_393, sk_394, sl_394, sr_0_0, sr_0_1, sr_0_2, sr_0_3, sr_0_4, sr_0_5, sr_0_6, sr_0_7, sr_0_8, sr_0_9, sr_1_0, sr_1_1, sr_1_2, sr_13_0, sr_15_0, sr_15_2, sr_40_0, sr_355_0, sr_355_1, sr_355_2, sr_355_3, sr_355_4, sr_355_5, sr_361_2, sr_361_5, sr_361_6, sr_363_0, sr_363_1, sr_376_0, sr_376_2, sr_378_0, sr_378_1, sr_378_2, sr_378_4, sr_378_8, sr_378_10, sr_378_11, sr_378_12, sr_378_14, sr_378_20, sr_378_21, sr_378_22, sr_378_23, sr_378_24, sr_378_25, sr_378_26, am_vs]
  have val : ∀ k, k < n → ∃ p, p < N ∧ E (5 + r) (i + 2 * k) = (p : Int) ∧ (E 381 (40 * r + i + 2 * k)).toNat = p ∧ E (5 + r) (i + 2 * k + 1) = E 381 (40 * r + i + 2 * k + 1) ∧ 0 ≤ E 381 (40 * r + i + 2 * k + 1) ∧ E 381 (40 * r + i + 2 * k + 1) ≤ 99 := by
    intro k hk
    obtain ⟨⟨q1, q2⟩, q3, q4⟩ := hP k hk
    have x1 := hit (i + 2 * k) (by omega)
    have x2 := hit (i + 2 * k + 1) (by omega)
    rw [show 40 * r + (i + 2 * k) = 40 * r + i + 2 * k by omega] at x1
    rw [show 40 * r + (i + 2 * k + 1) = 40 * r + i + 2 * k + 1 by omega] at x2
    exact ⟨(E 381 (40 * r + i + 2 * k)).toNat, by omega, by rw [x1]; omega, rfl, x2, q3, q4⟩
  have hD0 : 0 < n → beD (E 381) sg (40 * r + i) q n = E 381 (40 * r + i + 1) - sg (6 * q + (E 381 (40 * r + i)).toNat) := fun h => by unfold beD; rw [if_neg (by omega)]
  generalize beD (E 381) sg (40 * r + i) q n = D at *
  have tk : ∀ k : Nat, ((i : Int) + 2 * (k : Int)).toNat = i + 2 * k := fun k => by omega
  have tk1 : ∀ k : Nat, ((i : Int) + 2 * (k : Int) + 1).toNat = i + 2 * k + 1 := fun k => by omega
  have bound : 0 < n → -1000000 ≤ D ∧ D ≤ 99 := fun h => by
    obtain ⟨p, v1, v2, v3, v4, v5, v6⟩ := val 0 h
    rw [show 40 * r + i + 2 * 0 = 40 * r + i by omega] at v3 v5 v6
    have := hB (6 * q + p) (by omega)
    rw [hD0 h, v3]; omega
  by_cases hA : ∀ j, j < n → 0 ≤ D ∧ D + sg (6 * q + (E 381 (40 * r + i + 2 * j)).toNat) = E 381 (40 * r + i + 2 * j + 1)
  · rw [if_pos ((beB_iff n).mpr hA)]
    have h0 := am_loop (P := fun k => ∀ (v4 : Int) v6, (v4 = -1000000 ∨ v4 = D) → am_ev (am_sem d) 2 cX2_fits 7 [.ref 355, .ref (5 + r), .int (iI i), .int (iI n), .int (iI v4), .int (iI ((i : Int) + 2 * (k : Int))), v6] [] am_S0 (dI E) (some (.int 1), am_S0, dI E)) (n := n) ?_ ?_ (k := 0) (by omega)
    · have h1 := h0 (-1000000) (.retAddr 0) (Or.inl rfl)
      rw [show (i : Int) + 2 * ((0 : Nat) : Int) = (i : Int) by omega] at h1
      exact h1
    · intro k hk ih v4 v6 hv
      obtain ⟨p, u1, u2, u3, u4, u5, u6⟩ := val k hk
      obtain ⟨x1, x2⟩ := hA k hk
      rw [u3] at x2
      have gp := hg p (by omega)
      have b := hB (6 * q + p) (by omega)
      have bd := bound (by omega)
      have sv : E 381 (40 * r + i + 2 * k + 1) - sg (6 * q + p) = D := by omega
      have ih2 := ih D (.int (iI D)) (Or.inr rfl)
      rw [show (i : Int) + 2 * ((k + 1 : Nat) : Int) = (i : Int) + 2 * (k : Int) + 2 by omega] at ih2
      rw [eX2_fits_7]
      simp (disch := first | omega | simp only [am_ci, am_cr, am_ca]) only [eX2_fits_9, eX2_fits_10, eX2_fits_11, eX2_fits_12, eX2_fits_13, eX2_fits_14, eX2_fits_17, eX2_fits_18, eX2_fits_20, eX2_fits_21, eX2_fits_22, eX2_fits_23, eX2_fits_24, eX2_fits_27, eX2_fits_28, eX2_fits_30, eX2_fits_31, eX2_fits_32, eX2_fits_33, eX2_fits_35, eX2_fits_37, eX2_fits_40, eX2_fits_42, eX2_fits_44, eX2_fits_47, eX2_fits_49, eX2_fits_51, eX2_fits_54, eX2_fits_55, eX2_fits_56, eX2_fits_58, eX2_fits_60, eX2_fits_63, am_bi, Int.reduceEq, Int.reduceLT, Int.reduceLE, Int.reduceToNat, ite_self, Decidable.not_not, not_true_eq_false, not_false_eq_true, ↓reduceIte, am_ci, am_cr, am_ca, am_b0, am_b1, am_ts, am_tn, am_then_some, List.cons_append, List.nil_append, ne_eq, iI_lit, iI_add, iI_sub, iI_mul, iI_neg, iI_lt, iI_le, iI_eq, iI_in, iI_clz, dI_ap, dI_wr, setR_s, wE_R, setR_2, setR_n, setR_o, updI_s, updI_n, updI_2, tl_0, tl_1, tl_2, tl_3, tl_4, tl_5, tl_6, tl_7, tl_8, tl_9, tl_10, tl_11, tl_12, tl_13, tl_14, tl_15, tl_16, tn_3, tn_5, tn_13, tn_21, tn_29, tn_33, tn_37, tn_41, tn_45, tn_49, tn_53, tn_57, tn_61, tn_40, tn_p, tn_0, true_and, and_true, sk_0, sk_1, sk_2, sl_2, sk_3, sl_3, sk_4, sl_4, sk_5, sl_5, sk_6, sl_6, sk_7, sl_7, sk_8, sl_8, sk_9, sl_9, sk_10, sl_10, sk_11, sl_11, sk_12, sl_12, sk_13, sk_14, sl_14, sk_15, sk_40, sk_41, sl_41, sk_330, sl_330, sk_355, sk_356, sl_356, sk_357, sl_357, sk_358, sl_358, sk_359, sl_359, sk_360, sl_360, sk_361, sk_362, sl_362, sk_363, sk_376, sk_377, sl_377, sk_378, sk_379, sl_379, sk_380, sl_380, sk_381, sl_381, sk_382, sl_382, sk_383, sl_383, sk_384, sl_384, sk_385, sl_385, sk_386, sl_386, sk_387, sl_387, sk_388, sl_388, sk_389, sl_389, sk_390, sl_390, sk_391, sl_391, sk_392, sl_392, sk_393, sl_393, sk_394, sl_394, sr_0_0, sr_0_1, sr_0_2, sr_0_3, sr_0_4, sr_0_5, sr_0_6, sr_0_7, sr_0_8, sr_0_9, sr_1_0, sr_1_1, sr_1_2, sr_13_0, sr_15_0, sr_15_2, sr_40_0, sr_355_0, sr_355_1, sr_355_2, sr_355_3, sr_355_4, sr_355_5, sr_361_2, sr_361_5, sr_361_6, sr_363_0, sr_363_1, sr_376_0, sr_376_2, sr_378_0, sr_378_1, sr_378_2, sr_378_4, sr_378_8, sr_378_10, sr_378_11, sr_378_12, sr_378_14, sr_378_20, sr_378_21, sr_378_22, sr_378_23, sr_378_24, sr_378_25, sr_378_26, am_vs, ka.2.1, ka.2.2, tk, tk1, u2, u4, gp, sv]
      rw [if_neg (by omega), if_neg (by omega)]
      rcases hv with hv | hv
      · rw [if_pos hv]
        exact ih2
      · (repeat' split) <;> first | exact ih2 | (exfalso; omega)
    · intro v4 v6 hv
      rw [eX2_fits_7]
      simp (disch := first | omega | simp only [am_ci, am_cr, am_ca]) only [eX2_fits_9, eX2_fits_10, eX2_fits_11, eX2_fits_12, eX2_fits_13, eX2_fits_14, eX2_fits_17, eX2_fits_18, eX2_fits_20, eX2_fits_21, eX2_fits_22, eX2_fits_23, eX2_fits_24, eX2_fits_27, eX2_fits_28, eX2_fits_30, eX2_fits_31, eX2_fits_32, eX2_fits_33, eX2_fits_35, eX2_fits_37, eX2_fits_40, eX2_fits_42, eX2_fits_44, eX2_fits_47, eX2_fits_49, eX2_fits_51, eX2_fits_54, eX2_fits_55, eX2_fits_56, eX2_fits_58, eX2_fits_60, eX2_fits_63, eX2_fits_66, eX2_fits_67, am_bi, Int.reduceEq, Int.reduceLT, Int.reduceLE, Int.reduceToNat, ite_self, Decidable.not_not, not_true_eq_false, not_false_eq_true, ↓reduceIte, am_ci, am_cr, am_ca, am_b0, am_b1, am_ts, am_tn, am_then_some, List.cons_append, List.nil_append, ne_eq, iI_lit, iI_add, iI_sub, iI_mul, iI_neg, iI_lt, iI_le, iI_eq, iI_in, iI_clz, dI_ap, dI_wr, setR_s, wE_R, setR_2, setR_n, setR_o, updI_s, updI_n, updI_2, tl_0, tl_1, tl_2, tl_3, tl_4, tl_5, tl_6, tl_7, tl_8, tl_9, tl_10, tl_11, tl_12, tl_13, tl_14, tl_15, tl_16, tn_3, tn_5, tn_13, tn_21, tn_29, tn_33, tn_37, tn_41, tn_45, tn_49, tn_53, tn_57, tn_61, tn_40, tn_p, tn_0, true_and, and_true, sk_0, sk_1, sk_2, sl_2, sk_3, sl_3, sk_4, sl_4, sk_5, sl_5, sk_6, sl_6, sk_7, sl_7, sk_8, sl_8, sk_9, sl_9, sk_10, sl_10, sk_11, sl_11, sk_12, sl_12, sk_13, sk_14, sl_14, sk_15, sk_40, sk_41, sl_41, sk_330, sl_330, sk_355, sk_356, sl_356, sk_357, sl_357, sk_358, sl_358, sk_359, sl_359, sk_360, sl_360, sk_361, sk_362, sl_362, sk_363, sk_376, sk_377, sl_377, sk_378, sk_379, sl_379, sk_380, sl_380, sk_381, sl_381, sk_382, sl_382, sk_383, sl_383, sk_384, sl_384, sk_385, sl_385, sk_386, sl_386, sk_387, sl_387, sk_388, sl_388, sk_389, sl_389, sk_390, sl_390, sk_391, sl_391, sk_392, sl_392, sk_393, sl_393, sk_394, sl_394, sr_0_0, sr_0_1, sr_0_2, sr_0_3, sr_0_4, sr_0_5, sr_0_6, sr_0_7, sr_0_8, sr_0_9, sr_1_0, sr_1_1, sr_1_2, sr_13_0, sr_15_0, sr_15_2, sr_40_0, sr_355_0, sr_355_1, sr_355_2, sr_355_3, sr_355_4, sr_355_5, sr_361_2, sr_361_5, sr_361_6, sr_363_0, sr_363_1, sr_376_0, sr_376_2, sr_378_0, sr_378_1, sr_378_2, sr_378_4, sr_378_8, sr_378_10, sr_378_11, sr_378_12, sr_378_14, sr_378_20, sr_378_21, sr_378_22, sr_378_23, sr_378_24, sr_378_25, sr_378_26, am_vs]
      repeat (first | rw [if_pos (by omega)] | rw [if_neg (by omega)])
      trivial
  · rw [if_neg (fun h => hA ((beB_iff n).mp h))]
    have h0 := am_loop (P := fun k => ∀ (v4 : Int) v6, (v4 = if k = 0 then -1000000 else D) → (∀ j, j < k → 0 ≤ D ∧ D + sg (6 * q + (E 381 (40 * r + i + 2 * j)).toNat) = E 381 (40 * r + i + 2 * j + 1)) → am_ev (am_sem d) 2 cX2_fits 7 [.ref 355, .ref (5 + r), .int (iI i), .int (iI n), .int (iI v4), .int (iI ((i : Int) + 2 * (k : Int))), v6] [] am_S0 (dI E) (some (.int 0), am_S0, dI E)) (n := n) ?_ ?_ (k := 0) (by omega)
    · have h1 := h0 (-1000000) (.retAddr 0) rfl (fun j hj => by omega)
      rw [show (i : Int) + 2 * ((0 : Nat) : Int) = (i : Int) by omega] at h1
      exact h1
    · intro k hk ih v4 v6 hv hj
      obtain ⟨p, u1, u2, u3, u4, u5, u6⟩ := val k hk
      have gp := hg p (by omega)
      have b := hB (6 * q + p) (by omega)
      have bd := bound (by omega)
      have bv : -1000000 ≤ v4 ∧ v4 ≤ 99 := by rw [hv]; split <;> omega
      by_cases c : 0 ≤ D ∧ D + sg (6 * q + p) = E 381 (40 * r + i + 2 * k + 1)
      · have sv : E 381 (40 * r + i + 2 * k + 1) - sg (6 * q + p) = D := by omega
        have ih2 := ih D (.int (iI D)) (by rw [if_neg (by omega)]) (all_s.mpr ⟨hj, by rw [u3]; exact c⟩)
        rw [show (i : Int) + 2 * ((k + 1 : Nat) : Int) = (i : Int) + 2 * (k : Int) + 2 by omega] at ih2
        rw [eX2_fits_7]
        simp (disch := first | omega | simp only [am_ci, am_cr, am_ca]) only [eX2_fits_9, eX2_fits_10, eX2_fits_11, eX2_fits_12, eX2_fits_13, eX2_fits_14, eX2_fits_17, eX2_fits_18, eX2_fits_20, eX2_fits_21, eX2_fits_22, eX2_fits_23, eX2_fits_24, eX2_fits_27, eX2_fits_28, eX2_fits_30, eX2_fits_31, eX2_fits_32, eX2_fits_33, eX2_fits_35, eX2_fits_37, eX2_fits_40, eX2_fits_42, eX2_fits_44, eX2_fits_47, eX2_fits_49, eX2_fits_51, eX2_fits_54, eX2_fits_55, eX2_fits_56, eX2_fits_58, eX2_fits_60, eX2_fits_63, am_bi, Int.reduceEq, Int.reduceLT, Int.reduceLE, Int.reduceToNat, ite_self, Decidable.not_not, not_true_eq_false, not_false_eq_true, ↓reduceIte, am_ci, am_cr, am_ca, am_b0, am_b1, am_ts, am_tn, am_then_some, List.cons_append, List.nil_append, ne_eq, iI_lit, iI_add, iI_sub, iI_mul, iI_neg, iI_lt, iI_le, iI_eq, iI_in, iI_clz, dI_ap, dI_wr, setR_s, wE_R, setR_2, setR_n, setR_o, updI_s, updI_n, updI_2, tl_0, tl_1, tl_2, tl_3, tl_4, tl_5, tl_6, tl_7, tl_8, tl_9, tl_10, tl_11, tl_12, tl_13, tl_14, tl_15, tl_16, tn_3, tn_5, tn_13, tn_21, tn_29, tn_33, tn_37, tn_41, tn_45, tn_49, tn_53, tn_57, tn_61, tn_40, tn_p, tn_0, true_and, and_true, sk_0, sk_1, sk_2, sl_2, sk_3, sl_3, sk_4, sl_4, sk_5, sl_5, sk_6, sl_6, sk_7, sl_7, sk_8, sl_8, sk_9, sl_9, sk_10, sl_10, sk_11, sl_11, sk_12, sl_12, sk_13, sk_14, sl_14, sk_15, sk_40, sk_41, sl_41, sk_330, sl_330, sk_355, sk_356, sl_356, sk_357, sl_357, sk_358, sl_358, sk_359, sl_359, sk_360, sl_360, sk_361, sk_362, sl_362, sk_363, sk_376, sk_377, sl_377, sk_378, sk_379, sl_379, sk_380, sl_380, sk_381, sl_381, sk_382, sl_382, sk_383, sl_383, sk_384, sl_384, sk_385, sl_385, sk_386, sl_386, sk_387, sl_387, sk_388, sl_388, sk_389, sl_389, sk_390, sl_390, sk_391, sl_391, sk_392, sl_392, sk_393, sl_393, sk_394, sl_394, sr_0_0, sr_0_1, sr_0_2, sr_0_3, sr_0_4, sr_0_5, sr_0_6, sr_0_7, sr_0_8, sr_0_9, sr_1_0, sr_1_1, sr_1_2, sr_13_0, sr_15_0, sr_15_2, sr_40_0, sr_355_0, sr_355_1, sr_355_2, sr_355_3, sr_355_4, sr_355_5, sr_361_2, sr_361_5, sr_361_6, sr_363_0, sr_363_1, sr_376_0, sr_376_2, sr_378_0, sr_378_1, sr_378_2, sr_378_4, sr_378_8, sr_378_10, sr_378_11, sr_378_12, sr_378_14, sr_378_20, sr_378_21, sr_378_22, sr_378_23, sr_378_24, sr_378_25, sr_378_26, am_vs, ka.2.1, ka.2.2, tk, tk1, u2, u4, gp, sv]
        rw [if_neg (by omega), if_neg (by omega)]
        by_cases k0 : k = 0
        · rw [if_pos k0] at hv
          rw [if_pos hv]
          exact ih2
        · rw [if_neg k0] at hv
          (repeat' split) <;> first | exact ih2 | (exfalso; omega)
      · rw [eX2_fits_7]
        simp (disch := first | omega | simp only [am_ci, am_cr, am_ca]) only [eX2_fits_9, eX2_fits_10, eX2_fits_11, eX2_fits_12, eX2_fits_13, eX2_fits_14, eX2_fits_17, eX2_fits_18, eX2_fits_20, eX2_fits_21, eX2_fits_22, eX2_fits_23, eX2_fits_24, eX2_fits_27, eX2_fits_28, eX2_fits_30, eX2_fits_31, eX2_fits_32, eX2_fits_33, eX2_fits_35, eX2_fits_37, eX2_fits_40, eX2_fits_42, eX2_fits_44, eX2_fits_47, eX2_fits_49, eX2_fits_51, eX2_fits_54, eX2_fits_55, eX2_fits_56, eX2_fits_58, eX2_fits_60, eX2_fits_63, am_bi, Int.reduceEq, Int.reduceLT, Int.reduceLE, Int.reduceToNat, ite_self, Decidable.not_not, not_true_eq_false, not_false_eq_true, ↓reduceIte, am_ci, am_cr, am_ca, am_b0, am_b1, am_ts, am_tn, am_then_some, List.cons_append, List.nil_append, ne_eq, iI_lit, iI_add, iI_sub, iI_mul, iI_neg, iI_lt, iI_le, iI_eq, iI_in, iI_clz, dI_ap, dI_wr, setR_s, wE_R, setR_2, setR_n, setR_o, updI_s, updI_n, updI_2, tl_0, tl_1, tl_2, tl_3, tl_4, tl_5, tl_6, tl_7, tl_8, tl_9, tl_10, tl_11, tl_12, tl_13, tl_14, tl_15, tl_16, tn_3, tn_5, tn_13, tn_21, tn_29, tn_33, tn_37, tn_41, tn_45, tn_49, tn_53, tn_57, tn_61, tn_40, tn_p, tn_0, true_and, and_true, sk_0, sk_1, sk_2, sl_2, sk_3, sl_3, sk_4, sl_4, sk_5, sl_5, sk_6, sl_6, sk_7, sl_7, sk_8, sl_8, sk_9, sl_9, sk_10, sl_10, sk_11, sl_11, sk_12, sl_12, sk_13, sk_14, sl_14, sk_15, sk_40, sk_41, sl_41, sk_330, sl_330, sk_355, sk_356, sl_356, sk_357, sl_357, sk_358, sl_358, sk_359, sl_359, sk_360, sl_360, sk_361, sk_362, sl_362, sk_363, sk_376, sk_377, sl_377, sk_378, sk_379, sl_379, sk_380, sl_380, sk_381, sl_381, sk_382, sl_382, sk_383, sl_383, sk_384, sl_384, sk_385, sl_385, sk_386, sl_386, sk_387, sl_387, sk_388, sl_388, sk_389, sl_389, sk_390, sl_390, sk_391, sl_391, sk_392, sl_392, sk_393, sl_393, sk_394, sl_394, sr_0_0, sr_0_1, sr_0_2, sr_0_3, sr_0_4, sr_0_5, sr_0_6, sr_0_7, sr_0_8, sr_0_9, sr_1_0, sr_1_1, sr_1_2, sr_13_0, sr_15_0, sr_15_2, sr_40_0, sr_355_0, sr_355_1, sr_355_2, sr_355_3, sr_355_4, sr_355_5, sr_361_2, sr_361_5, sr_361_6, sr_363_0, sr_363_1, sr_376_0, sr_376_2, sr_378_0, sr_378_1, sr_378_2, sr_378_4, sr_378_8, sr_378_10, sr_378_11, sr_378_12, sr_378_14, sr_378_20, sr_378_21, sr_378_22, sr_378_23, sr_378_24, sr_378_25, sr_378_26, am_vs, ka.2.1, ka.2.2, tk, tk1, u2, u4, gp]
        rw [if_neg (by omega)]
        by_cases k0 : k = 0
        · subst k0
          rw [show 40 * r + i + 2 * 0 = 40 * r + i by omega] at u3 u4 c ⊢
          have := hD0 (by omega)
          rw [u3] at this
          rw [if_pos (by omega)]
          trivial
        · rw [if_neg k0] at hv
          by_cases c2 : E 381 (40 * r + i + 2 * k + 1) - sg (6 * q + p) < 0
          · rw [if_pos c2]; trivial
          · have d0 := (hj 0 (by omega)).1
            rw [if_neg c2, if_neg (by omega), if_neg (by omega)]
            trivial
    · intro v4 v6 hv hj
      exact absurd hj hA
theorem c_origins {d r i n : Nat} {E : Nat → Nat → Int} {t gs : Nat → Int} (hF : fR E t) (hr : r < 8) (hi : i + 2 * n ≤ 40) (hit : ∀ k, k < 40 → E (5 + r) k = E 381 (40 * r + k)) (hP : ∀ k, k < n → bePr (E 381) (t 0) (40 * r + i) k) : ∃ E', (∀ b, b ≠ 360 → E' b = E b) ∧ am_sem (d + 4) 25 [.ref 355, .ref (5 + r), .int (iI i), .int (iI n)] am_S0 (dI E) = some (some (.int (iI (beS (E 381) (sgT t gs) (40 * r + i) n (t 0).toNat))), am_S0, dI E') := by
  have hF0 := hF
  obtain ⟨⟨hR, hD⟩, hw, hqT⟩ := hF
  have hb := hw.1.1
  have a0 := hb.2.1
  have sB := hB_sg (g := gs) hb
  obtain ⟨N, hN⟩ := Int.eq_ofNat_of_zero_le a0.1
  have e0 : E 28 0 = (N : Int) := by rw [hR.1.1, hN]
  rw [hN] at hP ⊢
  rw [show ((N : Int)).toNat = N from rfl]
  obtain ⟨x, -, he⟩ := am_fwd (X := Nat → Int) (I := fun _ _ => True) (ev := fun k g R => am_ev (am_sem (d + 3)) 2 cX2_origins 6 [.ref 355, .ref (5 + r), .int (iI i), .int (iI n), .int (iI (beS (E 381) (sgT t gs) (40 * r + i) n k)), .int (iI k)] [] am_S0 (dI (setR E 360 g)) R) (n := N) (by
    intro k g hk _
    obtain ⟨g2, hg2, H1⟩ := c_spreadFrom (d := d) (q := k) (z := 0) (gs := gs) (E := setR E 360 g) (fR_s hF0 (by omega)) (by omega) (by omega)
    rw [setR_2] at H1
    have H2 := c_fits (d := d + 2) (r := r) (i := i) (n := n) (q := k) (N := N) (E := setR E 360 g2) (sg := sgT t gs) hr hi (by omega) sB (fun k hk => by rw [setR_n (by omega), setR_n (by omega)]; exact hit k hk) (by rw [setR_n (by omega)]; exact hP) (by omega) (fun p hp => by
      have := sB (6 * k + p) (by omega)
      rw [setR_s, hg2 p hp]; unfold mnI; split <;> omega)
    rw [setR_n (by omega)] at H2
    refine ⟨g2, trivial, fun R ih => ?_⟩
    rw [beS_s] at ih
    rw [eX2_origins_6]
    by_cases c : beB (E 381) (sgT t gs) (40 * r + i) k (beD (E 381) (sgT t gs) (40 * r + i) k n) n = 1
    · rw [if_pos c] at ih H2
      simp (disch := first | omega | simp only [am_ci, am_cr, am_ca]) only [eX2_origins_8, eX2_origins_9, eX2_origins_12, eX2_origins_15, eX2_origins_18, eX2_origins_19, eX2_origins_21, eX2_origins_22, eX2_origins_25, eX2_origins_26, eX2_origins_27, eX2_origins_28, eX2_origins_29, eX2_origins_32, eX2_origins_35, eX2_origins_37, eX2_origins_38, eX2_origins_40, eX2_origins_41, eX2_origins_42, eX2_origins_44, eX2_origins_47, am_bi, Int.reduceEq, Int.reduceLT, Int.reduceLE, Int.reduceToNat, ite_self, Decidable.not_not, not_true_eq_false, not_false_eq_true, ↓reduceIte, am_ci, am_cr, am_ca, am_b0, am_b1, am_ts, am_tn, am_then_some, List.cons_append, List.nil_append, ne_eq, iI_lit, iI_add, iI_sub, iI_mul, iI_neg, iI_lt, iI_le, iI_eq, iI_in, iI_clz, dI_ap, dI_wr, setR_s, wE_R, setR_2, setR_n, setR_o, updI_s, updI_n, updI_2, tl_0, tl_1, tl_2, tl_3, tl_4, tl_5, tl_6, tl_7, tl_8, tl_9, tl_10, tl_11, tl_12, tl_13, tl_14, tl_15, tl_16, tn_3, tn_5, tn_13, tn_21, tn_29, tn_33, tn_37, tn_41, tn_45, tn_49, tn_53, tn_57, tn_61, tn_40, tn_p, tn_0, true_and, and_true, sk_0, sk_1, sk_2, sl_2, sk_3, sl_3, sk_4, sl_4, sk_5, sl_5, sk_6, sl_6, sk_7, sl_7, sk_8, sl_8, sk_9, sl_9, sk_10, sl_10, sk_11, sl_11, sk_12, sl_12, sk_13, sk_14, sl_14, sk_15, sk_40, sk_41, sl_41, sk_330, sl_330, sk_355, sk_356, sl_356, sk_357, sl_357, sk_358, sl_358, sk_359, sl_359, sk_360, sl_360, sk_361, sk_362, sl_362, sk_363, sk_376, sk_377, sl_377, sk_378, sk_379, sl_379, sk_380, sl_380, sk_381, sl_381, sk_382, sl_382, sk_383, sl_383, sk_384, sl_384, sk_385, sl_385, sk_386, sl_386, sk_387, sl_387, sk_388, sl_388, sk_389, sl_389, sk_390, sl_390, sk_391, sl_391, sk_392, sl_392, sk_393, sl_393, sk_394, sl_394, sr_0_0, sr_0_1, sr_0_2, sr_0_3, sr_0_4, sr_0_5, sr_0_6, sr_0_7, sr_0_8, sr_0_9, sr_1_0, sr_1_1, sr_1_2, sr_13_0, sr_15_0, sr_15_2, sr_40_0, sr_355_0, sr_355_1, sr_355_2, sr_355_3, sr_355_4, sr_355_5, sr_361_2, sr_361_5, sr_361_6, sr_363_0, sr_363_1, sr_376_0, sr_376_2, sr_378_0, sr_378_1, sr_378_2, sr_378_4, sr_378_8, sr_378_10, sr_378_11, sr_378_12, sr_378_14, sr_378_20, sr_378_21, sr_378_22, sr_378_23, sr_378_24, sr_378_25, sr_378_26, am_vs, am_lg28.k, e0, H1, H2, iI_shl, iI_or]
      repeat (first | rw [if_pos (by omega)] | rw [if_neg (by omega)])
      exact ih
    · rw [if_neg c, Nat.or_zero] at ih
      rw [if_neg c] at H2
      simp (disch := first | omega | simp only [am_ci, am_cr, am_ca]) only [eX2_origins_8, eX2_origins_9, eX2_origins_12, eX2_origins_15, eX2_origins_18, eX2_origins_19, eX2_origins_21, eX2_origins_22, eX2_origins_25, eX2_origins_26, eX2_origins_27, eX2_origins_28, eX2_origins_29, eX2_origins_32, eX2_origins_35, eX2_origins_37, eX2_origins_38, eX2_origins_40, eX2_origins_41, eX2_origins_42, eX2_origins_44, eX2_origins_47, am_bi, Int.reduceEq, Int.reduceLT, Int.reduceLE, Int.reduceToNat, ite_self, Decidable.not_not, not_true_eq_false, not_false_eq_true, ↓reduceIte, am_ci, am_cr, am_ca, am_b0, am_b1, am_ts, am_tn, am_then_some, List.cons_append, List.nil_append, ne_eq, iI_lit, iI_add, iI_sub, iI_mul, iI_neg, iI_lt, iI_le, iI_eq, iI_in, iI_clz, dI_ap, dI_wr, setR_s, wE_R, setR_2, setR_n, setR_o, updI_s, updI_n, updI_2, tl_0, tl_1, tl_2, tl_3, tl_4, tl_5, tl_6, tl_7, tl_8, tl_9, tl_10, tl_11, tl_12, tl_13, tl_14, tl_15, tl_16, tn_3, tn_5, tn_13, tn_21, tn_29, tn_33, tn_37, tn_41, tn_45, tn_49, tn_53, tn_57, tn_61, tn_40, tn_p, tn_0, true_and, and_true, sk_0, sk_1, sk_2, sl_2, sk_3, sl_3, sk_4, sl_4, sk_5, sl_5, sk_6, sl_6, sk_7, sl_7, sk_8, sl_8, sk_9, sl_9, sk_10, sl_10, sk_11, sl_11, sk_12, sl_12, sk_13, sk_14, sl_14, sk_15, sk_40, sk_41, sl_41, sk_330, sl_330, sk_355, sk_356, sl_356, sk_357, sl_357, sk_358, sl_358, sk_359, sl_359, sk_360, sl_360, sk_361, sk_362, sl_362, sk_363, sk_376, sk_377, sl_377, sk_378, sk_379, sl_379, sk_380, sl_380, sk_381, sl_381, sk_382, sl_382, sk_383, sl_383, sk_384, sl_384, sk_385, sl_385, sk_386, sl_386, sk_387, sl_387, sk_388, sl_388, sk_389, sl_389, sk_390, sl_390, sk_391, sl_391, sk_392, sl_392, sk_393, sl_393, sk_394, sl_394, sr_0_0, sr_0_1, sr_0_2, sr_0_3, sr_0_4, sr_0_5, sr_0_6, sr_0_7, sr_0_8, sr_0_9, sr_1_0, sr_1_1, sr_1_2, sr_13_0, sr_15_0, sr_15_2, sr_40_0, sr_355_0, sr_355_1, sr_355_2, sr_355_3, sr_355_4, sr_355_5, sr_361_2, sr_361_5, sr_361_6, sr_363_0, sr_363_1, sr_376_0, sr_376_2, sr_378_0, sr_378_1, sr_378_2, sr_378_4, sr_378_8, sr_378_10, sr_378_11, sr_378_12, sr_378_14, sr_378_20, sr_378_21, sr_378_22, sr_378_23, sr_378_24, sr_378_25, sr_378_26, am_vs, am_lg28.k, e0, H1, H2]
      repeat (first | rw [if_pos (by omega)] | rw [if_neg (by omega)])
      exact ih) (k := 0) (x := E 360) (by omega) trivial
  refine ⟨setR E 360 x, fun b hb => setR_n hb, mX2_origins rfl rfl ?_⟩
  rw [setR_e] at he
  simp (disch := first | omega | simp only [am_ci, am_cr, am_ca]) only [eX2_origins_0, eX2_origins_1, eX2_origins_3, eX2_origins_4, am_bi, Int.reduceEq, Int.reduceLT, Int.reduceLE, Int.reduceToNat, ite_self, Decidable.not_not, not_true_eq_false, not_false_eq_true, ↓reduceIte, am_ci, am_cr, am_ca, am_b0, am_b1, am_ts, am_tn, am_then_some, List.cons_append, List.nil_append, ne_eq, iI_lit, iI_add, iI_sub, iI_mul, iI_neg, iI_lt, iI_le, iI_eq, iI_in, iI_clz, dI_ap, dI_wr, setR_s, wE_R, setR_2, setR_n, setR_o, updI_s, updI_n, updI_2, tl_0, tl_1, tl_2, tl_3, tl_4, tl_5, tl_6, tl_7, tl_8, tl_9, tl_10, tl_11, tl_12, tl_13, tl_14, tl_15, tl_16, tn_3, tn_5, tn_13, tn_21, tn_29, tn_33, tn_37, tn_41, tn_45, tn_49, tn_53, tn_57, tn_61, tn_40, tn_p, tn_0, true_and, and_true, sk_0, sk_1, sk_2, sl_2, sk_3, sl_3, sk_4, sl_4, sk_5, sl_5, sk_6, sl_6, sk_7, sl_7, sk_8, sl_8, sk_9, sl_9, sk_10, sl_10, sk_11, sl_11, sk_12, sl_12, sk_13, sk_14, sl_14, sk_15, sk_40, sk_41, sl_41, sk_330, sl_330, sk_355, sk_356, sl_356, sk_357, sl_357, sk_358, sl_358, sk_359, sl_359, sk_360, sl_360, sk_361, sk_362, sl_362, sk_363, sk_376, sk_377, sl_377, sk_378, sk_379, sl_379, sk_380, sl_380, sk_381, sl_381, sk_382, sl_382, sk_383, sl_383, sk_384, sl_384, sk_385, sl_385, sk_386, sl_386, sk_387, sl_387, sk_388, sl_388, sk_389, sl_389, sk_390, sl_390, sk_391, sl_391, sk_392, sl_392, sk_393, sl_393, sk_394, sl_394, sr_0_0, sr_0_1, sr_0_2, sr_0_3, sr_0_4, sr_0_5, sr_0_6, sr_0_7, sr_0_8, sr_0_9, sr_1_0, sr_1_1, sr_1_2, sr_13_0, sr_15_0, sr_15_2, sr_40_0, sr_355_0, sr_355_1, sr_355_2, sr_355_3, sr_355_4, sr_355_5, sr_361_2, sr_361_5, sr_361_6, sr_363_0, sr_363_1, sr_376_0, sr_376_2, sr_378_0, sr_378_1, sr_378_2, sr_378_4, sr_378_8, sr_378_10, sr_378_11, sr_378_12, sr_378_14, sr_378_20, sr_378_21, sr_378_22, sr_378_23, sr_378_24, sr_378_25, sr_378_26, am_vs]
  refine he _ ?_
  rw [eX2_origins_6]
  simp (disch := first | omega | simp only [am_ci, am_cr, am_ca]) only [eX2_origins_8, eX2_origins_9, eX2_origins_12, eX2_origins_15, eX2_origins_18, eX2_origins_19, eX2_origins_21, eX2_origins_22, eX2_origins_25, eX2_origins_26, eX2_origins_27, eX2_origins_28, eX2_origins_29, eX2_origins_32, eX2_origins_35, eX2_origins_37, eX2_origins_38, eX2_origins_40, eX2_origins_41, eX2_origins_42, eX2_origins_44, eX2_origins_47, eX2_origins_50, eX2_origins_52, am_bi, Int.reduceEq, Int.reduceLT, Int.reduceLE, Int.reduceToNat, ite_self, Decidable.not_not, not_true_eq_false, not_false_eq_true, ↓reduceIte, am_ci, am_cr, am_ca, am_b0, am_b1, am_ts, am_tn, am_then_some, List.cons_append, List.nil_append, ne_eq, iI_lit, iI_add, iI_sub, iI_mul, iI_neg, iI_lt, iI_le, iI_eq, iI_in, iI_clz, dI_ap, dI_wr, setR_s, wE_R, setR_2, setR_n, setR_o, updI_s, updI_n, updI_2, tl_0, tl_1, tl_2, tl_3, tl_4, tl_5, tl_6, tl_7, tl_8, tl_9, tl_10, tl_11, tl_12, tl_13, tl_14, tl_15, tl_16, tn_3, tn_5, tn_13, tn_21, tn_29, tn_33, tn_37, tn_41, tn_45, tn_49, tn_53, tn_57, tn_61, tn_40, tn_p, tn_0, true_and, and_true, sk_0, sk_1, sk_2, sl_2, sk_3, sl_3, sk_4, sl_4, sk_5, sl_5, sk_6, sl_6, sk_7, sl_7, sk_8, sl_8, sk_9, sl_9, sk_10, sl_10, sk_11, sl_11, sk_12, sl_12, sk_13, sk_14, sl_14, sk_15, sk_40, sk_41, sl_41, sk_330, sl_330, sk_355, sk_356, sl_356, sk_357, sl_357, sk_358, sl_358, sk_359, sl_359, sk_360, sl_360, sk_361, sk_362, sl_362, sk_363, sk_376, sk_377, sl_377, sk_378, sk_379, sl_379, sk_380, sl_380, sk_381, sl_381, sk_382, sl_382, sk_383, sl_383, sk_384, sl_384, sk_385, sl_385, sk_386, sl_386, sk_387, sl_387, sk_388, sl_388, sk_389, sl_389, sk_390, sl_390, sk_391, sl_391, sk_392, sl_392, sk_393, sl_393, sk_394, sl_394, sr_0_0, sr_0_1, sr_0_2, sr_0_3, sr_0_4, sr_0_5, sr_0_6, sr_0_7, sr_0_8, sr_0_9, sr_1_0, sr_1_1, sr_1_2, sr_13_0, sr_15_0, sr_15_2, sr_40_0, sr_355_0, sr_355_1, sr_355_2, sr_355_3, sr_355_4, sr_355_5, sr_361_2, sr_361_5, sr_361_6, sr_363_0, sr_363_1, sr_376_0, sr_376_2, sr_378_0, sr_378_1, sr_378_2, sr_378_4, sr_378_8, sr_378_10, sr_378_11, sr_378_12, sr_378_14, sr_378_20, sr_378_21, sr_378_22, sr_378_23, sr_378_24, sr_378_25, sr_378_26, am_vs, am_lg28.k, e0]
  repeat (first | rw [if_pos (by omega)] | rw [if_neg (by omega)])
  trivial
