/-! ===== the reference: carried, overtaken, bits ===== -/
theorem trE_wo {E : Nat → Nat → Int} {m n : Nat} {till : Int} (hw : wT (E 383)) (ht : E 383 3 ≤ till) (ht2 : till ≤ 150) {p : Nat} (hp : p < 6) : trE E m n till 390 p = itT (muT (E 383) m 4) (till - E 383 3).toNat (61 + 4 * p + n) ∧ -1 ≤ trE E m n till 390 p ∧ trE E m n till 390 p ≤ till := by
  have wM := muT_w hw m 4 (by omega)
  have e3 : muT (E 383) m 4 3 = E 383 3 := muT_o _ _ _ (by omega)
  obtain ⟨wI, eI⟩ := itT_w wM (till - E 383 3).toNat (by omega)
  have e4 : trE E m n till 390 p = itT (muT (E 383) m 4) (till - E 383 3).toNat (61 + 4 * p + n) := by
    unfold trE
    rw [setR_s]
    unfold wiT
    rw [if_pos hp]
  have b1 := wI.1.1.1 (61 + 4 * p + n)
  have b2 := wI.1.1.2.2.2.2.2.2.2.2.2 (61 + 4 * p + n) (by omega)
  rw [eI] at b2
  exact ⟨e4, by omega, by omega⟩
theorem trE_o (E : Nat → Nat → Int) (m n : Nat) (till : Int) {b : Nat} (h1 : b ≠ 389) (h2 : b ≠ 390) : trE E m n till b = E b := by
  unfold trE
  rw [setR_n h2, setR_n h1]
def ltV (wo br : Int) : Int := if wo < 0 ∨ br < wo then br else wo
def lsV (z : Int) : Int := if 150 < z then -1000000 else z
/-- the state behind carried -/
def crE (E : Nat → Nat → Int) (s n : Nat) : Nat → Nat → Int := setR (setR (trE E (2 ^ s) n 150) 391 (cmT (E 383) s (E 391))) 392 (brT (E 383) s n (trE E (2 ^ s) n 150 390) (cmT (E 383) s (E 391)) (E 392))
theorem p2_16 {s : Nat} (h : s < 4) : 2 ^ s < 16 := by
  have : s = 0 ∨ s = 1 ∨ s = 2 ∨ s = 3 := by omega
  rcases this with rfl | rfl | rfl | rfl <;> decide
theorem r_carried {d : Nat} {x y z : Int} {E : Nat → Nat → Int} (hx : i32 x) (hy : i32 y) (hz : i32 z) (hw : wT (E 383)) (h9 : z85 (E 389)) (hv1 : w1T (E 383)) : am_sem (d + 5) 180 [.ref 378, .int (iI x), .int (iI y), .int (iI z)] am_S0 (dI E) = if (0 ≤ x ∧ x < E 383 2) ∧ (0 ≤ y ∧ y < E 383 0) ∧ 0 ≤ z ∧ z < E 383 4 then some (some (.int (iI (lsV (ltV (crE E x.toNat z.toNat 390 y.toNat) (crE E x.toNat z.toNat 392 y.toNat))))), am_S0, dI (crE E x.toNat z.toNat)) else some (some (.int (iI (-1000001))), am_S0, dI E) := by
  have hb := hw.1.1
  have H0 := r_isShip (d := d + 2) (E := E) hx hb.1
  have H1 := r_isPort (d := d + 2) (E := E) hy hb.1
  have H2 := r_isNews (d := d + 2) (E := E) hz hb.1
  have a0 := hb.2.1
  have a2 := hb.2.2.2.1
  have a3 := hb.2.2.2.2.1
  have a4 := hb.2.2.2.2.2.1
  by_cases h0 : 0 ≤ x ∧ x < E 383 2
  · by_cases h1 : 0 ≤ y ∧ y < E 383 0
    · by_cases h2 : 0 ≤ z ∧ z < E 383 4
      · rw [if_pos ⟨h0, h1, h2⟩]
        obtain ⟨s, rfl⟩ := Int.eq_ofNat_of_zero_le h0.1
        obtain ⟨p, rfl⟩ := Int.eq_ofNat_of_zero_le h1.1
        obtain ⟨n, rfl⟩ := Int.eq_ofNat_of_zero_le h2.1
        rw [show ((s : Int)).toNat = s from rfl, show ((p : Int)).toNat = p from rfl, show ((n : Int)).toNat = n from rfl]
        have H3 := r_tries (d := d) (m := 2 ^ s) (n := n) (till := 150) (E := E) (p2_16 (by omega)) (by omega) hw h9 (by omega) (by omega)
        have W := fun p hp => trE_wo (E := E) (m := 2 ^ s) (n := n) (till := 150) hw (by omega) (by omega) (p := p) hp
        have o3 : trE E (2 ^ s) n 150 383 = E 383 := trE_o E _ _ _ (by omega) (by omega)
        have o1 : trE E (2 ^ s) n 150 391 = E 391 := trE_o E _ _ _ (by omega) (by omega)
        have o2 : trE E (2 ^ s) n 150 392 = E 392 := trE_o E _ _ _ (by omega) (by omega)
        have H4 := r_layBrings (d := d) (s := s) (n := n) (E := trE E (2 ^ s) n 150) (by rw [o3]; exact hb) (by rw [o3]; exact hv1) (by omega) (by omega) (fun p hp => by have := W p hp; omega)
        rw [o3, o1, o2] at H4
        rw [show setR (setR (trE E (2 ^ s) n 150) 391 (cmT (E 383) s (E 391))) 392 (brT (E 383) s n (trE E (2 ^ s) n 150 390) (cmT (E 383) s (E 391)) (E 392)) = crE E s n from rfl] at H4
        have bw := W p (by omega)
        have e0 : crE E s n 390 = trE E (2 ^ s) n 150 390 := by unfold crE; rw [setR_n (by omega), setR_n (by omega)]
        have bB : gB (crE E s n 392) := by
          unfold crE
          rw [setR_s]
          exact gB_pi (gB_kw (fun p hp => by have := W p hp; omega) (gB_cm hb hv1 s _)) (wy_tk hb hv1 s) 5
        have bb := bB p (by omega)
        rw [← e0] at bw
        unfold lsV ltV
        refine mX10_carried rfl rfl ?_
        have hsh : (iI 1 <<< (iI (s : Int) &&& iI 31)) = iI ((2 ^ s : Nat) : Int) := iI_shl (by omega)
        simp (disch := first | omega | simp only [am_ci, am_cr, am_ca]) only [eX10_carried_0, eX10_carried_1, eX10_carried_2, eX10_carried_5, eX10_carried_8, eX10_carried_9, eX10_carried_10, eX10_carried_13, eX10_carried_16, eX10_carried_17, eX10_carried_18, eX10_carried_21, eX10_carried_24, eX10_carried_26, eX10_carried_27, eX10_carried_28, eX10_carried_29, eX10_carried_30, eX10_carried_31, eX10_carried_32, eX10_carried_35, eX10_carried_38, eX10_carried_39, eX10_carried_40, eX10_carried_41, eX10_carried_44, eX10_carried_45, eX10_carried_48, eX10_carried_49, eX10_carried_50, eX10_carried_53, eX10_carried_54, eX10_carried_57, eX10_carried_58, eX10_carried_59, eX10_carried_60, eX10_carried_63, eX10_carried_64, eX10_carried_65, eX10_carried_68, eX10_carried_69, eX10_carried_72, eX10_carried_73, eX10_carried_74, eX10_carried_77, eX10_carried_78, eX10_carried_81, eX10_carried_82, eX10_carried_83, eX10_carried_85, eX10_carried_87, eX10_carried_90, eX10_carried_93, eX10_carried_95, eX10_carried_98, eX10_carried_100, am_bi, Int.reduceEq, Int.reduceLT, Int.reduceLE, Int.reduceToNat, ite_self, Decidable.not_not, not_true_eq_false, not_false_eq_true, ↓reduceIte, am_ci, am_cr, am_ca, am_b0, am_b1, am_ts, am_tn, am_then_some, List.cons_append, List.nil_append, ne_eq, iI_lit, iI_add, iI_sub, iI_mul, iI_neg, iI_lt, iI_le, iI_eq, iI_in, iI_clz, dI_ap, dI_wr, setR_s, wE_R, setR_2, setR_n, setR_o, updI_s, updI_n, updI_2, tl_0, tl_1, tl_2, tl_3, tl_4, tl_5, tl_6, tl_7, tl_8, tl_9, tl_10, tl_11, tl_12, tl_13, tl_14, tl_15, tl_16, tn_3, tn_5, tn_13, tn_21, tn_29, tn_33, tn_37, tn_41, tn_45, tn_49, tn_53, tn_57, tn_61, tn_40, tn_p, tn_0, true_and, and_true, sk_0, sk_1, sk_2, sl_2, sk_3, sl_3, sk_4, sl_4, sk_5, sl_5, sk_6, sl_6, sk_7, sl_7, sk_8, sl_8, sk_9, sl_9, sk_10, sl_10, sk_11, sl_11, sk_12, sl_12, sk_13, sk_14, sl_14, sk_15, sk_40, sk_41, sl_41, sk_330, sl_330, sk_355, sk_356, sl_356, sk_357, sl_357, sk_358, sl_358, sk_359, sl_359, sk_360, sl_360, sk_361, sk_362, sl_362, sk_363, sk_376, sk_377, sl_377, sk_378, sk_379, sl_379, sk_380, sl_380, sk_381, sl_381, sk_382, sl_382, sk_383, sl_383, sk_384, sl_384, sk_385, sl_385, sk_386, sl_386, sk_387, sl_387, sk_388, sl_388, sk_389, sl_389, sk_390, sl_390, sk_391, sl_391, sk_392, sl_392, sk_393, sl_393, sk_394, sl_394, sr_0_0, sr_0_1, sr_0_2, sr_0_3, sr_0_4, sr_0_5, sr_0_6, sr_0_7, sr_0_8, sr_0_9, sr_1_0, sr_1_1, sr_1_2, sr_13_0, sr_15_0, sr_15_2, sr_40_0, sr_355_0, sr_355_1, sr_355_2, sr_355_3, sr_355_4, sr_355_5, sr_361_2, sr_361_5, sr_361_6, sr_363_0, sr_363_1, sr_376_0, sr_376_2, sr_378_0, sr_378_1, sr_378_2, sr_378_4, sr_378_8, sr_378_10, sr_378_11, sr_378_12, sr_378_14, sr_378_20, sr_378_21, sr_378_22, sr_378_23, sr_378_24, sr_378_25, sr_378_26, am_vs, H0, H1, H2, h0, h1, h2, hsh, H3, H4]
        all_goals ((repeat' split) <;> first | rfl | trivial | (exfalso; omega))
      · rw [if_neg (by omega)]
        refine mX10_carried rfl rfl ?_
        simp (disch := first | omega | simp only [am_ci, am_cr, am_ca]) only [eX10_carried_0, eX10_carried_1, eX10_carried_2, eX10_carried_5, eX10_carried_8, eX10_carried_9, eX10_carried_10, eX10_carried_13, eX10_carried_16, eX10_carried_17, eX10_carried_18, eX10_carried_21, eX10_carried_24, eX10_carried_26, am_bi, Int.reduceEq, Int.reduceLT, Int.reduceLE, Int.reduceToNat, ite_self, Decidable.not_not, not_true_eq_false, not_false_eq_true, ↓reduceIte, am_ci, am_cr, am_ca, am_b0, am_b1, am_ts, am_tn, am_then_some, List.cons_append, List.nil_append, ne_eq, iI_lit, iI_add, iI_sub, iI_mul, iI_neg, iI_lt, iI_le, iI_eq, iI_in, iI_clz, dI_ap, dI_wr, setR_s, wE_R, setR_2, setR_n, setR_o, updI_s, updI_n, updI_2, tl_0, tl_1, tl_2, tl_3, tl_4, tl_5, tl_6, tl_7, tl_8, tl_9, tl_10, tl_11, tl_12, tl_13, tl_14, tl_15, tl_16, tn_3, tn_5, tn_13, tn_21, tn_29, tn_33, tn_37, tn_41, tn_45, tn_49, tn_53, tn_57, tn_61, tn_40, tn_p, tn_0, true_and, and_true, sk_0, sk_1, sk_2, sl_2, sk_3, sl_3, sk_4, sl_4, sk_5, sl_5, sk_6, sl_6, sk_7, sl_7, sk_8, sl_8, sk_9, sl_9, sk_10, sl_10, sk_11, sl_11, sk_12, sl_12, sk_13, sk_14, sl_14, sk_15, sk_40, sk_41, sl_41, sk_330, sl_330, sk_355, sk_356, sl_356, sk_357, sl_357, sk_358, sl_358, sk_359, sl_359, sk_360, sl_360, sk_361, sk_362, sl_362, sk_363, sk_376, sk_377, sl_377, sk_378, sk_379, sl_379, sk_380, sl_380, sk_381, sl_381, sk_382, sl_382, sk_383, sl_383, sk_384, sl_384, sk_385, sl_385, sk_386, sl_386, sk_387, sl_387, sk_388, sl_388, sk_389, sl_389, sk_390, sl_390, sk_391, sl_391, sk_392, sl_392, sk_393, sl_393, sk_394, sl_394, sr_0_0, sr_0_1, sr_0_2, sr_0_3, sr_0_4, sr_0_5, sr_0_6, sr_0_7, sr_0_8, sr_0_9, sr_1_0, sr_1_1, sr_1_2, sr_13_0, sr_15_0, sr_15_2, sr_40_0, sr_355_0, sr_355_1, sr_355_2, sr_355_3, sr_355_4, sr_355_5, sr_361_2, sr_361_5, sr_361_6, sr_363_0, sr_363_1, sr_376_0, sr_376_2, sr_378_0, sr_378_1, sr_378_2, sr_378_4, sr_378_8, sr_378_10, sr_378_11, sr_378_12, sr_378_14, sr_378_20, sr_378_21, sr_378_22, sr_378_23, sr_378_24, sr_378_25, sr_378_26, am_vs, H0, H1, H2, h0, h1, h2]
        all_goals ((repeat' split) <;> first | rfl | trivial | (exfalso; omega))
    · rw [if_neg (by omega)]
      refine mX10_carried rfl rfl ?_
      simp (disch := first | omega | simp only [am_ci, am_cr, am_ca]) only [eX10_carried_0, eX10_carried_1, eX10_carried_2, eX10_carried_5, eX10_carried_8, eX10_carried_9, eX10_carried_10, eX10_carried_13, eX10_carried_16, eX10_carried_17, eX10_carried_18, eX10_carried_21, eX10_carried_24, eX10_carried_26, am_bi, Int.reduceEq, Int.reduceLT, Int.reduceLE, Int.reduceToNat, ite_self, Decidable.not_not, not_true_eq_false, not_false_eq_true, ↓reduceIte, am_ci, am_cr, am_ca, am_b0, am_b1, am_ts, am_tn, am_then_some, List.cons_append, List.nil_append, ne_eq, iI_lit, iI_add, iI_sub, iI_mul, iI_neg, iI_lt, iI_le, iI_eq, iI_in, iI_clz, dI_ap, dI_wr, setR_s, wE_R, setR_2, setR_n, setR_o, updI_s, updI_n, updI_2, tl_0, tl_1, tl_2, tl_3, tl_4, tl_5, tl_6, tl_7, tl_8, tl_9, tl_10, tl_11, tl_12, tl_13, tl_14, tl_15, tl_16, tn_3, tn_5, tn_13, tn_21, tn_29, tn_33, tn_37, tn_41, tn_45, tn_49, tn_53, tn_57, tn_61, tn_40, tn_p, tn_0, true_and, and_true, sk_0, sk_1, sk_2, sl_2, sk_3, sl_3, sk_4, sl_4, sk_5, sl_5, sk_6, sl_6, sk_7, sl_7, sk_8, sl_8, sk_9, sl_9, sk_10, sl_10, sk_11, sl_11, sk_12, sl_12, sk_13, sk_14, sl_14, sk_15, sk_40, sk_41, sl_41, sk_330, sl_330, sk_355, sk_356, sl_356, sk_357, sl_357, sk_358, sl_358, sk_359, sl_359, sk_360, sl_360, sk_361, sk_362, sl_362, sk_363, sk_376, sk_377, sl_377, sk_378, sk_379, sl_379, sk_380, sl_380, sk_381, sl_381, sk_382, sl_382, sk_383, sl_383, sk_384, sl_384, sk_385, sl_385, sk_386, sl_386, sk_387, sl_387, sk_388, sl_388, sk_389, sl_389, sk_390, sl_390, sk_391, sl_391, sk_392, sl_392, sk_393, sl_393, sk_394, sl_394, sr_0_0, sr_0_1, sr_0_2, sr_0_3, sr_0_4, sr_0_5, sr_0_6, sr_0_7, sr_0_8, sr_0_9, sr_1_0, sr_1_1, sr_1_2, sr_13_0, sr_15_0, sr_15_2, sr_40_0, sr_355_0, sr_355_1, sr_355_2, sr_355_3, sr_355_4, sr_355_5, sr_361_2, sr_361_5, sr_361_6, sr_363_0, sr_363_1, sr_376_0, sr_376_2, sr_378_0, sr_378_1, sr_378_2, sr_378_4, sr_378_8, sr_378_10, sr_378_11, sr_378_12, sr_378_14, sr_378_20, sr_378_21, sr_378_22, sr_378_23, sr_378_24, sr_378_25, sr_378_26, am_vs, H0, H1, h0, h1]
      all_goals ((repeat' split) <;> first | rfl | trivial | (exfalso; omega))
  · rw [if_neg (by omega)]
    refine mX10_carried rfl rfl ?_
    simp (disch := first | omega | simp only [am_ci, am_cr, am_ca]) only [eX10_carried_0, eX10_carried_1, eX10_carried_2, eX10_carried_5, eX10_carried_8, eX10_carried_9, eX10_carried_10, eX10_carried_13, eX10_carried_16, eX10_carried_17, eX10_carried_18, eX10_carried_21, eX10_carried_24, eX10_carried_26, am_bi, Int.reduceEq, Int.reduceLT, Int.reduceLE, Int.reduceToNat, ite_self, Decidable.not_not, not_true_eq_false, not_false_eq_true, ↓reduceIte, am_ci, am_cr, am_ca, am_b0, am_b1, am_ts, am_tn, am_then_some, List.cons_append, List.nil_append, ne_eq, iI_lit, iI_add, iI_sub, iI_mul, iI_neg, iI_lt, iI_le, iI_eq, iI_in, iI_clz, dI_ap, dI_wr, setR_s, wE_R, setR_2, setR_n, setR_o, updI_s, updI_n, updI_2, tl_0, tl_1, tl_2, tl_3, tl_4, tl_5, tl_6, tl_7, tl_8, tl_9, tl_10, tl_11, tl_12, tl_13, tl_14, tl_15, tl_16, tn_3, tn_5, tn_13, tn_21, tn_29, tn_33, tn_37, tn_41, tn_45, tn_49, tn_53, tn_57, tn_61, tn_40, tn_p, tn_0, true_and, and_true, sk_0, sk_1, sk_2, sl_2, sk_3, sl_3, sk_4, sl_4, sk_5, sl_5, sk_6, sl_6, sk_7, sl_7, sk_8, sl_8, sk_9, sl_9, sk_10, sl_10, sk_11, sl_11, sk_12, sl_12, sk_13, sk_14, sl_14, sk_15, sk_40, sk_41, sl_41, sk_330, sl_330, sk_355, sk_356, sl_356, sk_357, sl_357, sk_358, sl_358, sk_359, sl_359, sk_360, sl_360, sk_361, sk_362, sl_362, sk_363, sk_376, sk_377, sl_377, sk_378, sk_379, sl_379, sk_380, sl_380, sk_381, sl_381, sk_382, sl_382, sk_383, sl_383, sk_384, sl_384, sk_385, sl_385, sk_386, sl_386, sk_387, sl_387, sk_388, sl_388, sk_389, sl_389, sk_390, sl_390, sk_391, sl_391, sk_392, sl_392, sk_393, sl_393, sk_394, sl_394, sr_0_0, sr_0_1, sr_0_2, sr_0_3, sr_0_4, sr_0_5, sr_0_6, sr_0_7, sr_0_8, sr_0_9, sr_1_0, sr_1_1, sr_1_2, sr_13_0, sr_15_0, sr_15_2, sr_40_0, sr_355_0, sr_355_1, sr_355_2, sr_355_3, sr_355_4, sr_355_5, sr_361_2, sr_361_5, sr_361_6, sr_363_0, sr_363_1, sr_376_0, sr_376_2, sr_378_0, sr_378_1, sr_378_2, sr_378_4, sr_378_8, sr_378_10, sr_378_11, sr_378_12, sr_378_14, sr_378_20, sr_378_21, sr_378_22, sr_378_23, sr_378_24, sr_378_25, sr_378_26, am_vs, H0, h0]
    all_goals ((repeat' split) <;> first | rfl | trivial | (exfalso; omega))
def ovE (E : Nat → Nat → Int) (s n : Nat) : Nat → Nat → Int := setR (trE E (2 ^ s) n 150) 391 (cmT (E 383) s (E 391))
def ovV (wo cm : Int) : Int := if cm < wo then wo - cm else -1000000
theorem r_overtaken {d : Nat} {x y z : Int} {E : Nat → Nat → Int} (hx : i32 x) (hy : i32 y) (hz : i32 z) (hw : wT (E 383)) (h9 : z85 (E 389)) (hv1 : w1T (E 383)) : am_sem (d + 5) 190 [.ref 378, .int (iI x), .int (iI y), .int (iI z)] am_S0 (dI E) = if (0 ≤ x ∧ x < E 383 2) ∧ (0 ≤ y ∧ y < E 383 0) ∧ 0 ≤ z ∧ z < E 383 4 then some (some (.int (iI (ovV (ovE E x.toNat z.toNat 390 y.toNat) (ovE E x.toNat z.toNat 391 y.toNat)))), am_S0, dI (ovE E x.toNat z.toNat)) else some (some (.int (iI (-1000001))), am_S0, dI E) := by
  have hb := hw.1.1
  have H0 := r_isShip (d := d + 2) (E := E) hx hb.1
  have H1 := r_isPort (d := d + 2) (E := E) hy hb.1
  have H2 := r_isNews (d := d + 2) (E := E) hz hb.1
  have a0 := hb.2.1
  have a2 := hb.2.2.2.1
  have a3 := hb.2.2.2.2.1
  have a4 := hb.2.2.2.2.2.1
  by_cases h0 : 0 ≤ x ∧ x < E 383 2
  · by_cases h1 : 0 ≤ y ∧ y < E 383 0
    · by_cases h2 : 0 ≤ z ∧ z < E 383 4
      · rw [if_pos ⟨h0, h1, h2⟩]
        obtain ⟨s, rfl⟩ := Int.eq_ofNat_of_zero_le h0.1
        obtain ⟨p, rfl⟩ := Int.eq_ofNat_of_zero_le h1.1
        obtain ⟨n, rfl⟩ := Int.eq_ofNat_of_zero_le h2.1
        rw [show ((s : Int)).toNat = s from rfl, show ((p : Int)).toNat = p from rfl, show ((n : Int)).toNat = n from rfl]
        have H3 := r_tries (d := d) (m := 2 ^ s) (n := n) (till := 150) (E := E) (p2_16 (by omega)) (by omega) hw h9 (by omega) (by omega)
        have W := fun p hp => trE_wo (E := E) (m := 2 ^ s) (n := n) (till := 150) hw (by omega) (by omega) (p := p) hp
        have o3 : trE E (2 ^ s) n 150 383 = E 383 := trE_o E _ _ _ (by omega) (by omega)
        have o1 : trE E (2 ^ s) n 150 391 = E 391 := trE_o E _ _ _ (by omega) (by omega)
        have H4 := r_layComes (d := d + 1) (s := s) (E := trE E (2 ^ s) n 150) (by rw [o3]; exact hb) (by rw [o3]; exact hv1) (by omega)
        rw [o3, o1] at H4
        rw [show setR (trE E (2 ^ s) n 150) 391 (cmT (E 383) s (E 391)) = ovE E s n from rfl] at H4
        have bw := W p (by omega)
        have e0 : ovE E s n 390 = trE E (2 ^ s) n 150 390 := by unfold ovE; rw [setR_n (by omega)]
        have bB : gB (ovE E s n 391) := by
          unfold ovE
          rw [setR_s]
          exact gB_cm hb hv1 s _
        have bb := bB p (by omega)
        rw [← e0] at bw
        unfold ovV
        refine mX10_overtaken rfl rfl ?_
        have hsh : (iI 1 <<< (iI (s : Int) &&& iI 31)) = iI ((2 ^ s : Nat) : Int) := iI_shl (by omega)
        simp (disch := first | omega | simp only [am_ci, am_cr, am_ca]) only [eX10_overtaken_0, eX10_overtaken_1, eX10_overtaken_2, eX10_overtaken_5, eX10_overtaken_8, eX10_overtaken_9, eX10_overtaken_10, eX10_overtaken_13, eX10_overtaken_16, eX10_overtaken_17, eX10_overtaken_18, eX10_overtaken_21, eX10_overtaken_24, eX10_overtaken_26, eX10_overtaken_27, eX10_overtaken_28, eX10_overtaken_29, eX10_overtaken_30, eX10_overtaken_31, eX10_overtaken_32, eX10_overtaken_35, eX10_overtaken_38, eX10_overtaken_39, eX10_overtaken_40, eX10_overtaken_43, eX10_overtaken_44, eX10_overtaken_47, eX10_overtaken_48, eX10_overtaken_49, eX10_overtaken_50, eX10_overtaken_53, eX10_overtaken_54, eX10_overtaken_55, eX10_overtaken_58, eX10_overtaken_59, eX10_overtaken_62, eX10_overtaken_63, eX10_overtaken_64, eX10_overtaken_65, eX10_overtaken_68, eX10_overtaken_69, eX10_overtaken_70, eX10_overtaken_71, eX10_overtaken_74, eX10_overtaken_76, am_bi, Int.reduceEq, Int.reduceLT, Int.reduceLE, Int.reduceToNat, ite_self, Decidable.not_not, not_true_eq_false, not_false_eq_true, ↓reduceIte, am_ci, am_cr, am_ca, am_b0, am_b1, am_ts, am_tn, am_then_some, List.cons_append, List.nil_append, ne_eq, iI_lit, iI_add, iI_sub, iI_mul, iI_neg, iI_lt, iI_le, iI_eq, iI_in, iI_clz, dI_ap, dI_wr, setR_s, wE_R, setR_2, setR_n, setR_o, updI_s, updI_n, updI_2, tl_0, tl_1, tl_2, tl_3, tl_4, tl_5, tl_6, tl_7, tl_8, tl_9, tl_10, tl_11, tl_12, tl_13, tl_14, tl_15, tl_16, tn_3, tn_5, tn_13, tn_21, tn_29, tn_33, tn_37, tn_41, tn_45, tn_49, tn_53, tn_57, tn_61, tn_40, tn_p, tn_0, true_and, and_true, sk_0, sk_1, sk_2, sl_2, sk_3, sl_3, sk_4, sl_4, sk_5, sl_5, sk_6, sl_6, sk_7, sl_7, sk_8, sl_8, sk_9, sl_9, sk_10, sl_10, sk_11, sl_11, sk_12, sl_12, sk_13, sk_14, sl_14, sk_15, sk_40, sk_41, sl_41, sk_330, sl_330, sk_355, sk_356, sl_356, sk_357, sl_357, sk_358, sl_358, sk_359, sl_359, sk_360, sl_360, sk_361, sk_362, sl_362, sk_363, sk_376, sk_377, sl_377, sk_378, sk_379, sl_379, sk_380, sl_380, sk_381, sl_381, sk_382, sl_382, sk_383, sl_383, sk_384, sl_384, sk_385, sl_385, sk_386, sl_386, sk_387, sl_387, sk_388, sl_388, sk_389, sl_389, sk_390, sl_390, sk_391, sl_391, sk_392, sl_392, sk_393, sl_393, sk_394, sl_394, sr_0_0, sr_0_1, sr_0_2, sr_0_3, sr_0_4, sr_0_5, sr_0_6, sr_0_7, sr_0_8, sr_0_9, sr_1_0, sr_1_1, sr_1_2, sr_13_0, sr_15_0, sr_15_2, sr_40_0, sr_355_0, sr_355_1, sr_355_2, sr_355_3, sr_355_4, sr_355_5, sr_361_2, sr_361_5, sr_361_6, sr_363_0, sr_363_1, sr_376_0, sr_376_2, sr_378_0, sr_378_1, sr_378_2, sr_378_4, sr_378_8, sr_378_10, sr_378_11, sr_378_12, sr_378_14, sr_378_20, sr_378_21, sr_378_22, sr_378_23, sr_378_24, sr_378_25, sr_378_26, am_vs, H0, H1, H2, h0, h1, h2, hsh, H3, H4]
        all_goals ((repeat' split) <;> first | rfl | trivial | (exfalso; omega))
      · rw [if_neg (by omega)]
        refine mX10_overtaken rfl rfl ?_
        simp (disch := first | omega | simp only [am_ci, am_cr, am_ca]) only [eX10_overtaken_0, eX10_overtaken_1, eX10_overtaken_2, eX10_overtaken_5, eX10_overtaken_8, eX10_overtaken_9, eX10_overtaken_10, eX10_overtaken_13, eX10_overtaken_16, eX10_overtaken_17, eX10_overtaken_18, eX10_overtaken_21, eX10_overtaken_24, eX10_overtaken_26, am_bi, Int.reduceEq, Int.reduceLT, Int.reduceLE, Int.reduceToNat, ite_self, Decidable.not_not, not_true_eq_false, not_false_eq_true, ↓reduceIte, am_ci, am_cr, am_ca, am_b0, am_b1, am_ts, am_tn, am_then_some, List.cons_append, List.nil_append, ne_eq, iI_lit, iI_add, iI_sub, iI_mul, iI_neg, iI_lt, iI_le, iI_eq, iI_in, iI_clz, dI_ap, dI_wr, setR_s, wE_R, setR_2, setR_n, setR_o, updI_s, updI_n, updI_2, tl_0, tl_1, tl_2, tl_3, tl_4, tl_5, tl_6, tl_7, tl_8, tl_9, tl_10, tl_11, tl_12, tl_13, tl_14, tl_15, tl_16, tn_3, tn_5, tn_13, tn_21, tn_29, tn_33, tn_37, tn_41, tn_45, tn_49, tn_53, tn_57, tn_61, tn_40, tn_p, tn_0, true_and, and_true, sk_0, sk_1, sk_2, sl_2, sk_3, sl_3, sk_4, sl_4, sk_5, sl_5, sk_6, sl_6, sk_7, sl_7, sk_8, sl_8, sk_9, sl_9, sk_10, sl_10, sk_11, sl_11, sk_12, sl_12, sk_13, sk_14, sl_14, sk_15, sk_40, sk_41, sl_41, sk_330, sl_330, sk_355, sk_356, sl_356, sk_357, sl_357, sk_358, sl_358, sk_359, sl_359, sk_360, sl_360, sk_361, sk_362, sl_362, sk_363, sk_376, sk_377, sl_377, sk_378, sk_379, sl_379, sk_380, sl_380, sk_381, sl_381, sk_382, sl_382, sk_383, sl_383, sk_384, sl_384, sk_385, sl_385, sk_386, sl_386, sk_387, sl_387, sk_388, sl_388, sk_389, sl_389, sk_390, sl_390, sk_391, sl_391, sk_392, sl_392, sk_393, sl_393, sk_394, sl_394, sr_0_0, sr_0_1, sr_0_2, sr_0_3, sr_0_4, sr_0_5, sr_0_6, sr_0_7, sr_0_8, sr_0_9, sr_1_0, sr_1_1, sr_1_2, sr_13_0, sr_15_0, sr_15_2, sr_40_0, sr_355_0, sr_355_1, sr_355_2, sr_355_3, sr_355_4, sr_355_5, sr_361_2, sr_361_5, sr_361_6, sr_363_0, sr_363_1, sr_376_0, sr_376_2, sr_378_0, sr_378_1, sr_378_2, sr_378_4, sr_378_8, sr_378_10, sr_378_11, sr_378_12, sr_378_14, sr_378_20, sr_378_21, sr_378_22, sr_378_23, sr_378_24, sr_378_25, sr_378_26, am_vs, H0, H1, H2, h0, h1, h2]
        all_goals ((repeat' split) <;> first | rfl | trivial | (exfalso; omega))
    · rw [if_neg (by omega)]
      refine mX10_overtaken rfl rfl ?_
      simp (disch := first | omega | simp only [am_ci, am_cr, am_ca]) only [eX10_overtaken_0, eX10_overtaken_1, eX10_overtaken_2, eX10_overtaken_5, eX10_overtaken_8, eX10_overtaken_9, eX10_overtaken_10, eX10_overtaken_13, eX10_overtaken_16, eX10_overtaken_17, eX10_overtaken_18, eX10_overtaken_21, eX10_overtaken_24, eX10_overtaken_26, am_bi, Int.reduceEq, Int.reduceLT, Int.reduceLE, Int.reduceToNat, ite_self, Decidable.not_not, not_true_eq_false, not_false_eq_true, ↓reduceIte, am_ci, am_cr, am_ca, am_b0, am_b1, am_ts, am_tn, am_then_some, List.cons_append, List.nil_append, ne_eq, iI_lit, iI_add, iI_sub, iI_mul, iI_neg, iI_lt, iI_le, iI_eq, iI_in, iI_clz, dI_ap, dI_wr, setR_s, wE_R, setR_2, setR_n, setR_o, updI_s, updI_n, updI_2, tl_0, tl_1, tl_2, tl_3, tl_4, tl_5, tl_6, tl_7, tl_8, tl_9, tl_10, tl_11, tl_12, tl_13, tl_14, tl_15, tl_16, tn_3, tn_5, tn_13, tn_21, tn_29, tn_33, tn_37, tn_41, tn_45, tn_49, tn_53, tn_57, tn_61, tn_40, tn_p, tn_0, true_and, and_true, sk_0, sk_1, sk_2, sl_2, sk_3, sl_3, sk_4, sl_4, sk_5, sl_5, sk_6, sl_6, sk_7, sl_7, sk_8, sl_8, sk_9, sl_9, sk_10, sl_10, sk_11, sl_11, sk_12, sl_12, sk_13, sk_14, sl_14, sk_15, sk_40, sk_41, sl_41, sk_330, sl_330, sk_355, sk_356, sl_356, sk_357, sl_357, sk_358, sl_358, sk_359, sl_359, sk_360, sl_360, sk_361, sk_362, sl_362, sk_363, sk_376, sk_377, sl_377, sk_378, sk_379, sl_379, sk_380, sl_380, sk_381, sl_381, sk_382, sl_382, sk_383, sl_383, sk_384, sl_384, sk_385, sl_385, sk_386, sl_386, sk_387, sl_387, sk_388, sl_388, sk_389, sl_389, sk_390, sl_390, sk_391, sl_391, sk_392, sl_392, sk_393, sl_393, sk_394, sl_394, sr_0_0, sr_0_1, sr_0_2, sr_0_3, sr_0_4, sr_0_5, sr_0_6, sr_0_7, sr_0_8, sr_0_9, sr_1_0, sr_1_1, sr_1_2, sr_13_0, sr_15_0, sr_15_2, sr_40_0, sr_355_0, sr_355_1, sr_355_2, sr_355_3, sr_355_4, sr_355_5, sr_361_2, sr_361_5, sr_361_6, sr_363_0, sr_363_1, sr_376_0, sr_376_2, sr_378_0, sr_378_1, sr_378_2, sr_378_4, sr_378_8, sr_378_10, sr_378_11, sr_378_12, sr_378_14, sr_378_20, sr_378_21, sr_378_22, sr_378_23, sr_378_24, sr_378_25, sr_378_26, am_vs, H0, H1, h0, h1]
      all_goals ((repeat' split) <;> first | rfl | trivial | (exfalso; omega))
  · rw [if_neg (by omega)]
    refine mX10_overtaken rfl rfl ?_
    simp (disch := first | omega | simp only [am_ci, am_cr, am_ca]) only [eX10_overtaken_0, eX10_overtaken_1, eX10_overtaken_2, eX10_overtaken_5, eX10_overtaken_8, eX10_overtaken_9, eX10_overtaken_10, eX10_overtaken_13, eX10_overtaken_16, eX10_overtaken_17, eX10_overtaken_18, eX10_overtaken_21, eX10_overtaken_24, eX10_overtaken_26, am_bi, Int.reduceEq, Int.reduceLT, Int.reduceLE, Int.reduceToNat, ite_self, Decidable.not_not, not_true_eq_false, not_false_eq_true, ↓reduceIte, am_ci, am_cr, am_ca, am_b0, am_b1, am_ts, am_tn, am_then_some, List.cons_append, List.nil_append, ne_eq, iI_lit, iI_add, iI_sub, iI_mul, iI_neg, iI_lt, iI_le, iI_eq, iI_in, iI_clz, dI_ap, dI_wr, setR_s, wE_R, setR_2, setR_n, setR_o, updI_s, updI_n, updI_2, tl_0, tl_1, tl_2, tl_3, tl_4, tl_5, tl_6, tl_7, tl_8, tl_9, tl_10, tl_11, tl_12, tl_13, tl_14, tl_15, tl_16, tn_3, tn_5, tn_13, tn_21, tn_29, tn_33, tn_37, tn_41, tn_45, tn_49, tn_53, tn_57, tn_61, tn_40, tn_p, tn_0, true_and, and_true, sk_0, sk_1, sk_2, sl_2, sk_3, sl_3, sk_4, sl_4, sk_5, sl_5, sk_6, sl_6, sk_7, sl_7, sk_8, sl_8, sk_9, sl_9, sk_10, sl_10, sk_11, sl_11, sk_12, sl_12, sk_13, sk_14, sl_14, sk_15, sk_40, sk_41, sl_41, sk_330, sl_330, sk_355, sk_356, sl_356, sk_357, sl_357, sk_358, sl_358, sk_359, sl_359, sk_360, sl_360, sk_361, sk_362, sl_362, sk_363, sk_376, sk_377, sl_377, sk_378, sk_379, sl_379, sk_380, sl_380, sk_381, sl_381, sk_382, sl_382, sk_383, sl_383, sk_384, sl_384, sk_385, sl_385, sk_386, sl_386, sk_387, sl_387, sk_388, sl_388, sk_389, sl_389, sk_390, sl_390, sk_391, sl_391, sk_392, sl_392, sk_393, sl_393, sk_394, sl_394, sr_0_0, sr_0_1, sr_0_2, sr_0_3, sr_0_4, sr_0_5, sr_0_6, sr_0_7, sr_0_8, sr_0_9, sr_1_0, sr_1_1, sr_1_2, sr_13_0, sr_15_0, sr_15_2, sr_40_0, sr_355_0, sr_355_1, sr_355_2, sr_355_3, sr_355_4, sr_355_5, sr_361_2, sr_361_5, sr_361_6, sr_363_0, sr_363_1, sr_376_0, sr_376_2, sr_378_0, sr_378_1, sr_378_2, sr_378_4, sr_378_8, sr_378_10, sr_378_11, sr_378_12, sr_378_14, sr_378_20, sr_378_21, sr_378_22, sr_378_23, sr_378_24, sr_378_25, sr_378_26, am_vs, H0, h0]
    all_goals ((repeat' split) <;> first | rfl | trivial | (exfalso; omega))
/-- how many bits a number has -/
def bcF : Nat → Nat → Nat
  | 0, _ => 0
  | f + 1, n => if n = 0 then 0 else bcF f (n &&& (n - 1)) + 1
theorem bcF_le : ∀ f n, bcF f n ≤ f
  | 0, _ => by simp [bcF]
  | f + 1, n => by
    unfold bcF
    have := bcF_le f (n &&& (n - 1))
    split <;> omega
theorem bcF_up : ∀ f g n, n < f → f ≤ g → bcF g n = bcF f n
  | 0, _, n, h, _ => by omega
  | f + 1, 0, n, _, h => by omega
  | f + 1, g + 1, n, h1, h2 => by
    unfold bcF
    by_cases e : n = 0
    · rw [if_pos e, if_pos e]
    · have hl : n &&& (n - 1) ≤ n - 1 := Nat.and_le_right
      rw [if_neg e, if_neg e, bcF_up f g (n &&& (n - 1)) (by omega) (by omega)]
theorem r_bits {d n : Nat} {E : Nat → Nat → Int} (hn : n < 64) : am_sem (d + 1) 189 [.int (iI n)] am_S0 (dI E) = some (some (.int (iI (bcF 64 n))), am_S0, dI E) := by
  refine mX10_bits rfl rfl ?_
  simp (disch := first | omega | simp only [am_ci, am_cr, am_ca]) only [eX10_bits_0, eX10_bits_1, eX10_bits_2, eX10_bits_3, am_bi, Int.reduceEq, Int.reduceLT, Int.reduceLE, Int.reduceToNat, ite_self, Decidable.not_not, not_true_eq_false, not_false_eq_true, ↓reduceIte, am_ci, am_cr, am_ca, am_b0, am_b1, am_ts, am_tn, am_then_some, List.cons_append, List.nil_append, ne_eq, iI_lit, iI_add, iI_sub, iI_mul, iI_neg, iI_lt, iI_le, iI_eq, iI_in, iI_clz, dI_ap, dI_wr, setR_s, wE_R, setR_2, setR_n, setR_o, updI_s, updI_n, updI_2, tl_0, tl_1, tl_2, tl_3, tl_4, tl_5, tl_6, tl_7, tl_8, tl_9, tl_10, tl_11, tl_12, tl_13, tl_14, tl_15, tl_16, tn_3, tn_5, tn_13, tn_21, tn_29, tn_33, tn_37, tn_41, tn_45, tn_49, tn_53, tn_57, tn_61, tn_40, tn_p, tn_0, true_and, and_true, sk_0, sk_1, sk_2, sl_2, sk_3, sl_3, sk_4, sl_4, sk_5, sl_5, sk_6, sl_6, sk_7, sl_7, sk_8, sl_8, sk_9, sl_9, sk_10, sl_10, sk_11, sl_11, sk_12, sl_12, sk_13, sk_14, sl_14, sk_15, sk_40, sk_41, sl_41, sk_330, sl_330, sk_355, sk_356, sl_356, sk_357, sl_357, sk_358, sl_358, sk_359, sl_359, sk_360, sl_360, sk_361, sk_362, sl_362, sk_363, sk_376, sk_377, sl_377, sk_378, sk_379, sl_379, sk_380, sl_380, sk_381, sl_381, sk_382, sl_382, sk_383, sl_383, sk_384, sl_384, sk_385, sl_385, sk_386, sl_386, sk_387, sl_387, sk_388, sl_388, sk_389, sl_389, sk_390, sl_390, sk_391, sl_391, sk_392, sl_392, sk_393, sl_393, sk_394, sl_394, sr_0_0, sr_0_1, sr_0_2, sr_0_3, sr_0_4, sr_0_5, sr_0_6, sr_0_7, sr_0_8, sr_0_9, sr_1_0, sr_1_1, sr_1_2, sr_13_0, sr_15_0, sr_15_2, sr_40_0, sr_355_0, sr_355_1, sr_355_2, sr_355_3, sr_355_4, sr_355_5, sr_361_2, sr_361_5, sr_361_6, sr_363_0, sr_363_1, sr_376_0, sr_376_2, sr_378_0, sr_378_1, sr_378_2, sr_378_4, sr_378_8, sr_378_10, sr_378_11, sr_378_12, sr_378_14, sr_378_20, sr_378_21, sr_378_22, sr_378_23, sr_378_24, sr_378_25, sr_378_26, am_vs]
  have key : ∀ f m c : Nat, m < f → c + f ≤ 64 → am_ev (am_sem d) 10 cX10_bits 4 [.int (iI n), .int (iI c), .int (iI m)] [] am_S0 (dI E) (some (.int (iI ((c + bcF f m : Nat) : Int))), am_S0, dI E) := by
    intro f
    induction f with
    | zero => intro m c h; omega
    | succ f ih =>
      intro m c h1 h2
      rw [eX10_bits_4]
      unfold bcF
      by_cases e : m = 0
      · subst e
        simp (disch := first | omega | simp only [am_ci, am_cr, am_ca]) only [eX10_bits_5, eX10_bits_8, eX10_bits_11, eX10_bits_12, eX10_bits_13, eX10_bits_14, eX10_bits_15, eX10_bits_16, eX10_bits_17, eX10_bits_20, eX10_bits_21, am_bi, Int.reduceEq, Int.reduceLT, Int.reduceLE, Int.reduceToNat, ite_self, Decidable.not_not, not_true_eq_false, not_false_eq_true, ↓reduceIte, am_ci, am_cr, am_ca, am_b0, am_b1, am_ts, am_tn, am_then_some, List.cons_append, List.nil_append, ne_eq, iI_lit, iI_add, iI_sub, iI_mul, iI_neg, iI_lt, iI_le, iI_eq, iI_in, iI_clz, dI_ap, dI_wr, setR_s, wE_R, setR_2, setR_n, setR_o, updI_s, updI_n, updI_2, tl_0, tl_1, tl_2, tl_3, tl_4, tl_5, tl_6, tl_7, tl_8, tl_9, tl_10, tl_11, tl_12, tl_13, tl_14, tl_15, tl_16, tn_3, tn_5, tn_13, tn_21, tn_29, tn_33, tn_37, tn_41, tn_45, tn_49, tn_53, tn_57, tn_61, tn_40, tn_p, tn_0, true_and, and_true, sk_0, sk_1, sk_2, sl_2, sk_3, sl_3, sk_4, sl_4, sk_5, sl_5, sk_6, sl_6, sk_7, sl_7, sk_8, sl_8, sk_9, sl_9, sk_10, sl_10, sk_11, sl_11, sk_12, sl_12, sk_13, sk_14, sl_14, sk_15, sk_40, sk_41, sl_41, sk_330, sl_330, sk_355, sk_356, sl_356, sk_357, sl_357, sk_358, sl_358, sk_359, sl_359, sk_360, sl_360, sk_361, sk_362, sl_362, sk_363, sk_376, sk_377, sl_377, sk_378, sk_379, sl_379, sk_380, sl_380, sk_381, sl_381, sk_382, sl_382, sk_383, sl_383, sk_384, sl_384, sk_385, sl_385, sk_386, sl_386, sk_387, sl_387, sk_388, sl_388, sk_389, sl_389, sk_390, sl_390, sk_391, sl_391, sk_392, sl_392, sk_393, sl_393, sk_394, sl_394, sr_0_0, sr_0_1, sr_0_2, sr_0_3, sr_0_4, sr_0_5, sr_0_6, sr_0_7, sr_0_8, sr_0_9, sr_1_0, sr_1_1, sr_1_2, sr_13_0, sr_15_0, sr_15_2, sr_40_0, sr_355_0, sr_355_1, sr_355_2, sr_355_3, sr_355_4, sr_355_5, sr_361_2, sr_361_5, sr_361_6, sr_363_0, sr_363_1, sr_376_0, sr_376_2, sr_378_0, sr_378_1, sr_378_2, sr_378_4, sr_378_8, sr_378_10, sr_378_11, sr_378_12, sr_378_14, sr_378_20, sr_378_21, sr_378_22, sr_378_23, sr_378_24, sr_378_25, sr_378_26, am_vs]
        all_goals ((repeat' split) <;> first | rfl | trivial | (exfalso; omega))
      · obtain ⟨k, rfl⟩ : ∃ k, m = k + 1 := ⟨m - 1, by omega⟩
        have hl : (k + 1) &&& k ≤ k := Nat.and_le_right
        have e1 : ((k + 1 : Nat) : Int) - 1 = (k : Int) := by omega
        have h4 := ih ((k + 1) &&& k) (c + 1) (by omega) (by omega)
        rw [if_neg e, show k + 1 - 1 = k by omega, show c + (bcF f ((k + 1) &&& k) + 1) = c + 1 + bcF f ((k + 1) &&& k) by omega]
        simp (disch := first | omega | simp only [am_ci, am_cr, am_ca]) only [eX10_bits_5, eX10_bits_8, eX10_bits_11, eX10_bits_12, eX10_bits_13, eX10_bits_14, eX10_bits_15, eX10_bits_16, eX10_bits_17, am_bi, Int.reduceEq, Int.reduceLT, Int.reduceLE, Int.reduceToNat, ite_self, Decidable.not_not, not_true_eq_false, not_false_eq_true, ↓reduceIte, am_ci, am_cr, am_ca, am_b0, am_b1, am_ts, am_tn, am_then_some, List.cons_append, List.nil_append, ne_eq, iI_lit, iI_add, iI_sub, iI_mul, iI_neg, iI_lt, iI_le, iI_eq, iI_in, iI_clz, dI_ap, dI_wr, setR_s, wE_R, setR_2, setR_n, setR_o, updI_s, updI_n, updI_2, tl_0, tl_1, tl_2, tl_3, tl_4, tl_5, tl_6, tl_7, tl_8, tl_9, tl_10, tl_11, tl_12, tl_13, tl_14, tl_15, tl_16, tn_3, tn_5, tn_13, tn_21, tn_29, tn_33, tn_37, tn_41, tn_45, tn_49, tn_53, tn_57, tn_61, tn_40, tn_p, tn_0, true_and, and_true, sk_0, sk_1, sk_2, sl_2, sk_3, sl_3, sk_4, sl_4, sk_5, sl_5, sk_6, sl_6, sk_7, sl_7, sk_8, sl_8, sk_9, sl_9, sk_10, sl_10, sk_11, sl_11, sk_12, sl_12, sk_13, sk_14, sl_14, sk_15, sk_40, sk_41, sl_41, sk_330, sl_330, sk_355, sk_356, sl_356, sk_357, sl_357, sk_358, sl_358, sk_359, sl_359, sk_360, sl_360, sk_361, sk_362, sl_362, sk_363, sk_376, sk_377, sl_377, sk_378, sk_379, sl_379, sk_380, sl_380, sk_381, sl_381, sk_382, sl_382, sk_383, sl_383, sk_384, sl_384, sk_385, sl_385, sk_386, sl_386, sk_387, sl_387, sk_388, sl_388, sk_389, sl_389, sk_390, sl_390, sk_391, sl_391, sk_392, sl_392, sk_393, sl_393, sk_394, sl_394, sr_0_0, sr_0_1, sr_0_2, sr_0_3, sr_0_4, sr_0_5, sr_0_6, sr_0_7, sr_0_8, sr_0_9, sr_1_0, sr_1_1, sr_1_2, sr_13_0, sr_15_0, sr_15_2, sr_40_0, sr_355_0, sr_355_1, sr_355_2, sr_355_3, sr_355_4, sr_355_5, sr_361_2, sr_361_5, sr_361_6, sr_363_0, sr_363_1, sr_376_0, sr_376_2, sr_378_0, sr_378_1, sr_378_2, sr_378_4, sr_378_8, sr_378_10, sr_378_11, sr_378_12, sr_378_14, sr_378_20, sr_378_21, sr_378_22, sr_378_23, sr_378_24, sr_378_25, sr_378_26, am_vs, e1, iI_and]
        rw [if_neg (by omega)]
        exact h4
  have := key 64 n 0 hn (by omega)
  rw [Nat.zero_add] at this
  exact this
