/-! ===== the class: sure, began ===== -/
theorem c_spreadFrom {d q : Nat} {z : Int} {E : Nat → Nat → Int} {t gs : Nat → Int} (hF : fR E t) (hq : (q : Int) < t 0) (hz : 0 ≤ z ∧ z ≤ 1000000) : ∃ g, (∀ p, p < 6 → g p = mnI (z + sgT t gs (6 * q + p)) 1000000) ∧ am_sem (d + 3) 24 [.ref 355, .int (iI q), .int (iI z)] am_S0 (dI E) = some (none, am_S0, dI (setR E 360 g)) := by
  have hF0 := hF
  obtain ⟨⟨hR, hD⟩, hw, hqT⟩ := hF
  have hb := hw.1.1
  have a0 := hb.2.1
  have h1 : w1T t := hqT.1.2.2.1
  have hne := hqT.1.2.2.2.1
  have H2 := j_fill (d := d + 1) (q := 360) (L := 6) (z := 1000000) (E := E) sk_360 sl_360 (by omega)
  have hf : ∀ p, p < 6 → updI (flT (E 360) 1000000 6) q z p = if p = q then z else 1000000 := fun p hp => by
    by_cases e : p = q
    · subst e; rw [updI_s, if_pos rfl]
    · rw [updI_n e, if_neg e]; unfold flT; rw [if_pos hp]
  have HS : am_sem (d + 2) 17 [.ref 355, .ref 360, .int (iI 6)] am_S0 (dI (setR E 360 (updI (flT (E 360) 1000000 6) q z))) = _ := c_spread (d := d) (q := 360) (m := 6) (dl := sgD t) (E := setR E 360 (updI (flT (E 360) 1000000 6) q z)) (by omega) (fR_s hF0 (by omega)) (by omega) (fun w _ _ => rfl) (fun p hp => by
    rw [setR_s, hf p (by omega)]; split <;> omega)
  rw [setR_s, setR_2] at HS
  refine ⟨_, fun p hp => sg_from hb h1 hne gs (f := updI (flT (E 360) 1000000 6) q z) (by omega) hz hf hp, mX2_spreadFrom rfl rfl ?_⟩
  simp (disch := first | omega | simp only [am_ci, am_cr, am_ca]) only [eX2_spreadFrom_0, eX2_spreadFrom_1, eX2_spreadFrom_4, eX2_spreadFrom_6, eX2_spreadFrom_9, eX2_spreadFrom_10, eX2_spreadFrom_13, eX2_spreadFrom_14, eX2_spreadFrom_15, eX2_spreadFrom_16, eX2_spreadFrom_17, eX2_spreadFrom_18, eX2_spreadFrom_21, eX2_spreadFrom_23, eX2_spreadFrom_26, am_bi, Int.reduceEq, Int.reduceLT, Int.reduceLE, Int.reduceToNat, ite_self, Decidable.not_not, not_true_eq_false, not_false_eq_true, ↓reduceIte, am_ci, am_cr, am_ca, am_b0, am_b1, am_ts, am_tn, am_then_some, List.cons_append, List.nil_append, ne_eq, iI_lit, iI_add, iI_sub, iI_mul, iI_neg, iI_lt, iI_le, iI_eq, iI_in, iI_clz, dI_ap, dI_wr, setR_s, wE_R, setR_2, setR_n, setR_o, updI_s, updI_n, updI_2, tl_0, tl_1, tl_2, tl_3, tl_4, tl_5, tl_6, tl_7, tl_8, tl_9, tl_10, tl_11, tl_12, tl_13, tl_14, tl_15, tl_16, tn_3, tn_5, tn_13, tn_21, tn_29, tn_33, tn_37, tn_41, tn_45, tn_49, tn_53, tn_57, tn_61, tn_40, tn_p, tn_0, true_and, and_true, sk_0, sk_1, sk_2, sl_2, sk_3, sl_3, sk_4, sl_4, sk_5, sl_5, sk_6, sl_6, sk_7, sl_7, sk_8, sl_8, sk_9, sl_9, sk_10, sl_10, sk_11, sl_11, sk_12, sl_12, sk_13, sk_14, sl_14, sk_15, sk_40, sk_41, sl_41, sk_330, sl_330, sk_355, sk_356, sl_356, sk_357, sl_357, sk_358, sl_358, sk_359, sl_359, sk_360, sl_360, sk_361, sk_362, sl_362, sk_363, sk_376, sk_377, sl_377, sk_378, sk_379, sl_379, sk_380, sl_380, sk_381, sl_381, sk_382, sl_382, sk_383, sl_383, sk_384, sl_384, sk_385, sl_385, sk_386, sl_386, sk_387, sl_387, sk_388, sl_388, sk_389, sl_389, sk_390, sl_390, sk_391, sl_391, sk_392, sl_392, sk_393, sl_393, sk_394, sl_394, sr_0_0, sr_0_1, sr_0_2, sr_0_3, sr_0_4, sr_0_5, sr_0_6, sr_0_7, sr_0_8, sr_0_9, sr_1_0, sr_1_1, sr_1_2, sr_13_0, sr_15_0, sr_15_2, sr_40_0, sr_355_0, sr_355_1, sr_355_2, sr_355_3, sr_355_4, sr_355_5, sr_361_2, sr_361_5, sr_361_6, sr_363_0, sr_363_1, sr_376_0, sr_376_2, sr_378_0, sr_378_1, sr_378_2, sr_378_4, sr_378_8, sr_378_10, sr_378_11, sr_378_12, sr_378_14, sr_378_20, sr_378_21, sr_378_22, sr_378_23, sr_378_24, sr_378_25, sr_378_26, am_vs, H2, HS]
theorem mn_mx (a b F : Int) : (if mnI b F < mnI a F then mnI a F else mnI b F) = mnI (mxI a b) F := by
  unfold mnI mxI
  (repeat' split) <;> omega
theorem mn_ad {r s F : Int} (hs : 0 ≤ s) : mnI (mnI r F + s) F = mnI (r + s) F := by
  unfold mnI
  (repeat' split) <;> omega
/-- the class's days are those of r, far ones cut -/
def suR (N : Int) (c r : Nat → Int) : Prop := ∀ p : Nat, (p : Int) < N → c p = mnI (r p) 1000000 ∧ 0 ≤ r p
theorem mxQ_0 {w sg : Nat → Int} {p N : Nat} (hN : N ≤ 6) (hp : p < 6) (hw : ∀ q, q < N → 0 ≤ w q) (hs : hB sg) : ∀ q, q ≤ N → 0 ≤ mxQ w sg p q
  | 0, _ => by unfold mxQ; omega
  | q + 1, hq => by
    have ih := mxQ_0 hN hp hw hs q (by omega)
    rw [mxQ_s]
    unfold mxI
    split
    · have h1 := hw q (by omega)
      have h2 := hs (6 * q + p) (by omega)
      omega
    · exact ih
theorem c_hearFromAll {d : Nat} {E : Nat → Nat → Int} {t gs r : Nat → Int} (hF : fR E t) (hr : suR (t 0) (E 356) r) : ∃ E', (∀ b, (b < 356 ∨ 360 < b) → E' b = E b) ∧ suR (t 0) (E' 356) (fun p => mxQ r (sgT t gs) p (t 0).toNat) ∧ am_sem (d + 4) 23 [.ref 355] am_S0 (dI E) = some (none, am_S0, dI E') := by
  have hF0 := hF
  obtain ⟨⟨hR, hD⟩, hw, hqT⟩ := hF
  have hb := hw.1.1
  have a0 := hb.2.1
  obtain ⟨N, hN⟩ := Int.eq_ofNat_of_zero_le a0.1
  have e0 : E 28 0 = (N : Int) := by rw [hR.1.1, hN]
  have sB := hB_sg (g := gs) hb
  rw [hN] at hr ⊢
  rw [show ((N : Int)).toNat = N from rfl]
  have r0 : ∀ q, q < N → 0 ≤ r q := fun q hq => (hr q (by omega)).2
  have mq : ∀ p k, p < N → k ≤ N → 0 ≤ mxQ r (sgT t gs) p k := fun p k hp hk => mxQ_0 (by omega) (by omega) r0 sB k hk
  have H2 := j_fill (d := d + 2) (q := 359) (L := 6) (z := 0) (E := E) sk_359 sl_359 (by omega)
  obtain ⟨x, hx, he⟩ := am_fwd (X := (Nat → Int) × (Nat → Int)) (I := fun k x => ∀ p, p < N → x.1 p = mnI (mxQ r (sgT t gs) p k) 1000000) (ev := fun k x R => ∀ v2, am_ev (am_sem (d + 3)) 2 cX2_hearFromAll 10 [.ref 355, .int (iI k), v2] [] am_S0 (dI (setR (setR E 359 x.1) 360 x.2)) R) (n := N) (by
    rintro k ⟨h, o⟩ hk hI
    simp only at hI
    have rk := hr k (by omega)
    have ck : 0 ≤ E 356 k ∧ E 356 k ≤ 1000000 := by rw [rk.1]; unfold mnI; split <;> omega
    obtain ⟨g, hg, H1⟩ := c_spreadFrom (d := d) (q := k) (z := E 356 k) (gs := gs) (E := setR (setR E 359 h) 360 o) (fR_s (fR_s hF0 (by omega)) (by omega)) (by omega) ck
    rw [setR_2] at H1
    obtain ⟨h2, hh2, he2⟩ := am_fwd (X := Nat → Int) (I := fun j y => (∀ p, p < j → y p = mnI (mxQ r (sgT t gs) p (k + 1)) 1000000) ∧ ∀ p, j ≤ p → p < N → y p = mnI (mxQ r (sgT t gs) p k) 1000000) (ev := fun j y R => am_ev (am_sem (d + 3)) 2 cX2_hearFromAll 34 [.ref 355, .int (iI k), .int (iI j)] [] am_S0 (dI (setR (setR E 359 y) 360 g)) R) (n := N) (by
      rintro j y hj ⟨y1, y2⟩
      have yj := y2 j (by omega) hj
      have gj := hg j (by omega)
      have m0 := mq j k hj (by omega)
      have s0 := sB (6 * k + j) (by omega)
      have b1 : 0 ≤ y j ∧ y j ≤ 1000000 := by rw [yj]; unfold mnI; split <;> omega
      have b2 : 0 ≤ g j ∧ g j ≤ 1000000 := by rw [gj]; unfold mnI; split <;> omega
      have ev2 : (if y j < g j then g j else y j) = mnI (mxQ r (sgT t gs) j (k + 1)) 1000000 := by
        rw [yj, gj, rk.1, mn_ad s0.1, mxQ_s, ← mn_mx]
      refine ⟨updI y j (mnI (mxQ r (sgT t gs) j (k + 1)) 1000000), ⟨fun p hp => ?_, fun p hp hp2 => ?_⟩, fun R ih => ?_⟩
      · by_cases e : p = j
        · subst e; rw [updI_s]
        · rw [updI_n e]; exact y1 p (by omega)
      · rw [updI_n (by omega)]; exact y2 p (by omega) hp2
      · rw [eX2_hearFromAll_34]
        simp (disch := first | omega | simp only [am_ci, am_cr, am_ca]) only [eX2_hearFromAll_35, eX2_hearFromAll_36, eX2_hearFromAll_39, eX2_hearFromAll_42, eX2_hearFromAll_45, eX2_hearFromAll_46, eX2_hearFromAll_49, eX2_hearFromAll_50, eX2_hearFromAll_51, eX2_hearFromAll_54, eX2_hearFromAll_55, eX2_hearFromAll_56, eX2_hearFromAll_57, eX2_hearFromAll_60, eX2_hearFromAll_61, eX2_hearFromAll_62, eX2_hearFromAll_65, eX2_hearFromAll_66, eX2_hearFromAll_69, am_bi, Int.reduceEq, Int.reduceLT, Int.reduceLE, Int.reduceToNat, ite_self, Decidable.not_not, not_true_eq_false, not_false_eq_true, ↓reduceIte, am_ci, am_cr, am_ca, am_b0, am_b1, am_ts, am_tn, am_then_some, List.cons_append, List.nil_append, ne_eq, iI_lit, iI_add, iI_sub, iI_mul, iI_neg, iI_lt, iI_le, iI_eq, iI_in, iI_clz, dI_ap, dI_wr, setR_s, wE_R, setR_2, setR_n, setR_o, updI_s, updI_n, updI_2, tl_0, tl_1, tl_2, tl_3, tl_4, tl_5, tl_6, tl_7, tl_8, tl_9, tl_10, tl_11, tl_12, tl_13, tl_14, tl_15, tl_16, tn_3, tn_5, tn_13, tn_21, tn_29, tn_33, tn_37, tn_41, tn_45, tn_49, tn_53, tn_57, tn_61, tn_40, tn_p, tn_0, true_and, and_true, sk_0, sk_1, sk_2, sl_2, sk_3, sl_3, sk_4, sl_4, sk_5, sl_5, sk_6, sl_6, sk_7, sl_7, sk_8, sl_8, sk_9, sl_9, sk_10, sl_10, sk_11, sl_11, sk_12, sl_12, sk_13, sk_14, sl_14, sk_15, sk_40, sk_41, sl_41, sk_330, sl_330, sk_355, sk_356, sl_356, sk_357, sl_357, sk_358, sl_358, sk_359, sl_359, sk_360, sl_360, sk_361, sk_362, sl_362, sk_363, sk_376, sk_377, sl_377, sk_378, sk_379, sl_379, sk_380, sl_380, sk_381, sl_381, sk_382, sl_382, sk_383, sl_383, sk_384, sl_384, sk_385, sl_385, sk_386, sl_386, sk_387, sl_387, sk_388, sl_388, sk_389, sl_389, sk_390, sl_390, sk_391, sl_391, sk_392, sl_392, sk_393, sl_393, sk_394, sl_394, sr_0_0, sr_0_1, sr_0_2, sr_0_3, sr_0_4, sr_0_5, sr_0_6, sr_0_7, sr_0_8, sr_0_9, sr_1_0, sr_1_1, sr_1_2, sr_13_0, sr_15_0, sr_15_2, sr_40_0, sr_355_0, sr_355_1, sr_355_2, sr_355_3, sr_355_4, sr_355_5, sr_361_2, sr_361_5, sr_361_6, sr_363_0, sr_363_1, sr_376_0, sr_376_2, sr_378_0, sr_378_1, sr_378_2, sr_378_4, sr_378_8, sr_378_10, sr_378_11, sr_378_12, sr_378_14, sr_378_20, sr_378_21, sr_378_22, sr_378_23, sr_378_24, sr_378_25, sr_378_26, am_vs, am_lg28.k, e0, iI_ite, ev2]
        rw [if_neg (by omega)]
        exact ih) (k := 0) (x := h) (by omega) ⟨fun p hp => by omega, fun p _ hp => hI p hp⟩
    refine ⟨(h2, g), fun p hp => hh2.1 p hp, fun R ih v2 => ?_⟩
    rw [eX2_hearFromAll_10]
    simp (disch := first | omega | simp only [am_ci, am_cr, am_ca]) only [eX2_hearFromAll_11, eX2_hearFromAll_12, eX2_hearFromAll_15, eX2_hearFromAll_18, eX2_hearFromAll_21, eX2_hearFromAll_22, eX2_hearFromAll_23, eX2_hearFromAll_24, eX2_hearFromAll_27, eX2_hearFromAll_28, eX2_hearFromAll_29, eX2_hearFromAll_32, eX2_hearFromAll_33, am_bi, Int.reduceEq, Int.reduceLT, Int.reduceLE, Int.reduceToNat, ite_self, Decidable.not_not, not_true_eq_false, not_false_eq_true, ↓reduceIte, am_ci, am_cr, am_ca, am_b0, am_b1, am_ts, am_tn, am_then_some, List.cons_append, List.nil_append, ne_eq, iI_lit, iI_add, iI_sub, iI_mul, iI_neg, iI_lt, iI_le, iI_eq, iI_in, iI_clz, dI_ap, dI_wr, setR_s, wE_R, setR_2, setR_n, setR_o, updI_s, updI_n, updI_2, tl_0, tl_1, tl_2, tl_3, tl_4, tl_5, tl_6, tl_7, tl_8, tl_9, tl_10, tl_11, tl_12, tl_13, tl_14, tl_15, tl_16, tn_3, tn_5, tn_13, tn_21, tn_29, tn_33, tn_37, tn_41, tn_45, tn_49, tn_53, tn_57, tn_61, tn_40, tn_p, tn_0, true_and, and_true, sk_0, sk_1, sk_2, sl_2, sk_3, sl_3, sk_4, sl_4, sk_5, sl_5, sk_6, sl_6, sk_7, sl_7, sk_8, sl_8, sk_9, sl_9, sk_10, sl_10, sk_11, sl_11, sk_12, sl_12, sk_13, sk_14, sl_14, sk_15, sk_40, sk_41, sl_41, sk_330, sl_330, sk_355, sk_356, sl_356, sk_357, sl_357, sk_358, sl_358, sk_359, sl_359, sk_360, sl_360, sk_361, sk_362, sl_362, sk_363, sk_376, sk_377, sl_377, sk_378, sk_379, sl_379, sk_380, sl_380, sk_381, sl_381, sk_382, sl_382, sk_383, sl_383, sk_384, sl_384, sk_385, sl_385, sk_386, sl_386, sk_387, sl_387, sk_388, sl_388, sk_389, sl_389, sk_390, sl_390, sk_391, sl_391, sk_392, sl_392, sk_393, sl_393, sk_394, sl_394, sr_0_0, sr_0_1, sr_0_2, sr_0_3, sr_0_4, sr_0_5, sr_0_6, sr_0_7, sr_0_8, sr_0_9, sr_1_0, sr_1_1, sr_1_2, sr_13_0, sr_15_0, sr_15_2, sr_40_0, sr_355_0, sr_355_1, sr_355_2, sr_355_3, sr_355_4, sr_355_5, sr_361_2, sr_361_5, sr_361_6, sr_363_0, sr_363_1, sr_376_0, sr_376_2, sr_378_0, sr_378_1, sr_378_2, sr_378_4, sr_378_8, sr_378_10, sr_378_11, sr_378_12, sr_378_14, sr_378_20, sr_378_21, sr_378_22, sr_378_23, sr_378_24, sr_378_25, sr_378_26, am_vs, am_lg28.k, e0, H1]
    rw [if_neg (by omega)]
    refine he2 _ ?_
    rw [eX2_hearFromAll_34]
    simp (disch := first | omega | simp only [am_ci, am_cr, am_ca]) only [eX2_hearFromAll_35, eX2_hearFromAll_36, eX2_hearFromAll_39, eX2_hearFromAll_42, eX2_hearFromAll_45, eX2_hearFromAll_46, eX2_hearFromAll_49, eX2_hearFromAll_50, eX2_hearFromAll_51, eX2_hearFromAll_54, eX2_hearFromAll_55, eX2_hearFromAll_56, eX2_hearFromAll_57, eX2_hearFromAll_60, eX2_hearFromAll_61, eX2_hearFromAll_62, eX2_hearFromAll_65, eX2_hearFromAll_66, eX2_hearFromAll_69, eX2_hearFromAll_72, eX2_hearFromAll_75, am_bi, Int.reduceEq, Int.reduceLT, Int.reduceLE, Int.reduceToNat, ite_self, Decidable.not_not, not_true_eq_false, not_false_eq_true, ↓reduceIte, am_ci, am_cr, am_ca, am_b0, am_b1, am_ts, am_tn, am_then_some, List.cons_append, List.nil_append, ne_eq, iI_lit, iI_add, iI_sub, iI_mul, iI_neg, iI_lt, iI_le, iI_eq, iI_in, iI_clz, dI_ap, dI_wr, setR_s, wE_R, setR_2, setR_n, setR_o, updI_s, updI_n, updI_2, tl_0, tl_1, tl_2, tl_3, tl_4, tl_5, tl_6, tl_7, tl_8, tl_9, tl_10, tl_11, tl_12, tl_13, tl_14, tl_15, tl_16, tn_3, tn_5, tn_13, tn_21, tn_29, tn_33, tn_37, tn_41, tn_45, tn_49, tn_53, tn_57, tn_61, tn_40, tn_p, tn_0, true_and, and_true, sk_0, sk_1, sk_2, sl_2, sk_3, sl_3, sk_4, sl_4, sk_5, sl_5, sk_6, sl_6, sk_7, sl_7, sk_8, sl_8, sk_9, sl_9, sk_10, sl_10, sk_11, sl_11, sk_12, sl_12, sk_13, sk_14, sl_14, sk_15, sk_40, sk_41, sl_41, sk_330, sl_330, sk_355, sk_356, sl_356, sk_357, sl_357, sk_358, sl_358, sk_359, sl_359, sk_360, sl_360, sk_361, sk_362, sl_362, sk_363, sk_376, sk_377, sl_377, sk_378, sk_379, sl_379, sk_380, sl_380, sk_381, sl_381, sk_382, sl_382, sk_383, sl_383, sk_384, sl_384, sk_385, sl_385, sk_386, sl_386, sk_387, sl_387, sk_388, sl_388, sk_389, sl_389, sk_390, sl_390, sk_391, sl_391, sk_392, sl_392, sk_393, sl_393, sk_394, sl_394, sr_0_0, sr_0_1, sr_0_2, sr_0_3, sr_0_4, sr_0_5, sr_0_6, sr_0_7, sr_0_8, sr_0_9, sr_1_0, sr_1_1, sr_1_2, sr_13_0, sr_15_0, sr_15_2, sr_40_0, sr_355_0, sr_355_1, sr_355_2, sr_355_3, sr_355_4, sr_355_5, sr_361_2, sr_361_5, sr_361_6, sr_363_0, sr_363_1, sr_376_0, sr_376_2, sr_378_0, sr_378_1, sr_378_2, sr_378_4, sr_378_8, sr_378_10, sr_378_11, sr_378_12, sr_378_14, sr_378_20, sr_378_21, sr_378_22, sr_378_23, sr_378_24, sr_378_25, sr_378_26, am_vs, am_lg28.k, e0]
    rw [if_pos (by omega)]
    exact ih _) (k := 0) (x := (flT (E 359) 0 6, E 360)) (by omega) (fun p hp => by
    show flT (E 359) 0 6 p = mnI 0 1000000
    unfold flT
    rw [if_pos (by omega)]; rfl)
  obtain ⟨h, o⟩ := x
  simp only at hx he
  refine ⟨setR (setR (setR E 359 h) 360 o) 356 (cpT h 0 (E 356) 0 6), fun b hb => by rw [setR_n (by omega), setR_n (by omega), setR_n (by omega)], fun p hp => ⟨?_, mq p N (by omega) (by omega)⟩, mX2_hearFromAll rfl rfl ?_⟩
  · rw [setR_s]
    unfold cpT
    rw [if_pos (by omega), show 0 + (p - 0) = p by omega]
    exact hx p (by omega)
  · have e359 : setR (setR E 359 (flT (E 359) 0 6)) 360 (E 360) = setR E 359 (flT (E 359) 0 6) := by
      have := setR_e (setR E 359 (flT (E 359) 0 6)) 360
      rw [setR_n (show 360 ≠ 359 by omega)] at this
      exact this
    rw [e359] at he
    simp (disch := first | omega | simp only [am_ci, am_cr, am_ca]) only [eX2_hearFromAll_0, eX2_hearFromAll_1, eX2_hearFromAll_4, eX2_hearFromAll_5, eX2_hearFromAll_8, eX2_hearFromAll_9, am_bi, Int.reduceEq, Int.reduceLT, Int.reduceLE, Int.reduceToNat, ite_self, Decidable.not_not, not_true_eq_false, not_false_eq_true, ↓reduceIte, am_ci, am_cr, am_ca, am_b0, am_b1, am_ts, am_tn, am_then_some, List.cons_append, List.nil_append, ne_eq, iI_lit, iI_add, iI_sub, iI_mul, iI_neg, iI_lt, iI_le, iI_eq, iI_in, iI_clz, dI_ap, dI_wr, setR_s, wE_R, setR_2, setR_n, setR_o, updI_s, updI_n, updI_2, tl_0, tl_1, tl_2, tl_3, tl_4, tl_5, tl_6, tl_7, tl_8, tl_9, tl_10, tl_11, tl_12, tl_13, tl_14, tl_15, tl_16, tn_3, tn_5, tn_13, tn_21, tn_29, tn_33, tn_37, tn_41, tn_45, tn_49, tn_53, tn_57, tn_61, tn_40, tn_p, tn_0, true_and, and_true, sk_0, sk_1, sk_2, sl_2, sk_3, sl_3, sk_4, sl_4, sk_5, sl_5, sk_6, sl_6, sk_7, sl_7, sk_8, sl_8, sk_9, sl_9, sk_10, sl_10, sk_11, sl_11, sk_12, sl_12, sk_13, sk_14, sl_14, sk_15, sk_40, sk_41, sl_41, sk_330, sl_330, sk_355, sk_356, sl_356, sk_357, sl_357, sk_358, sl_358, sk_359, sl_359, sk_360, sl_360, sk_361, sk_362, sl_362, sk_363, sk_376, sk_377, sl_377, sk_378, sk_379, sl_379, sk_380, sl_380, sk_381, sl_381, sk_382, sl_382, sk_383, sl_383, sk_384, sl_384, sk_385, sl_385, sk_386, sl_386, sk_387, sl_387, sk_388, sl_388, sk_389, sl_389, sk_390, sl_390, sk_391, sl_391, sk_392, sl_392, sk_393, sl_393, sk_394, sl_394, sr_0_0, sr_0_1, sr_0_2, sr_0_3, sr_0_4, sr_0_5, sr_0_6, sr_0_7, sr_0_8, sr_0_9, sr_1_0, sr_1_1, sr_1_2, sr_13_0, sr_15_0, sr_15_2, sr_40_0, sr_355_0, sr_355_1, sr_355_2, sr_355_3, sr_355_4, sr_355_5, sr_361_2, sr_361_5, sr_361_6, sr_363_0, sr_363_1, sr_376_0, sr_376_2, sr_378_0, sr_378_1, sr_378_2, sr_378_4, sr_378_8, sr_378_10, sr_378_11, sr_378_12, sr_378_14, sr_378_20, sr_378_21, sr_378_22, sr_378_23, sr_378_24, sr_378_25, sr_378_26, am_vs, H2]
    refine he _ (fun v2 => ?_) _
    rw [eX2_hearFromAll_10]
    simp (disch := first | omega | simp only [am_ci, am_cr, am_ca]) only [eX2_hearFromAll_11, eX2_hearFromAll_12, eX2_hearFromAll_15, eX2_hearFromAll_18, eX2_hearFromAll_21, eX2_hearFromAll_22, eX2_hearFromAll_23, eX2_hearFromAll_24, eX2_hearFromAll_27, eX2_hearFromAll_28, eX2_hearFromAll_29, eX2_hearFromAll_32, eX2_hearFromAll_33, eX2_hearFromAll_35, eX2_hearFromAll_36, eX2_hearFromAll_39, eX2_hearFromAll_42, eX2_hearFromAll_45, eX2_hearFromAll_46, eX2_hearFromAll_49, eX2_hearFromAll_50, eX2_hearFromAll_51, eX2_hearFromAll_54, eX2_hearFromAll_55, eX2_hearFromAll_56, eX2_hearFromAll_57, eX2_hearFromAll_60, eX2_hearFromAll_61, eX2_hearFromAll_62, eX2_hearFromAll_65, eX2_hearFromAll_66, eX2_hearFromAll_69, eX2_hearFromAll_72, eX2_hearFromAll_75, eX2_hearFromAll_78, eX2_hearFromAll_79, eX2_hearFromAll_82, eX2_hearFromAll_83, eX2_hearFromAll_84, eX2_hearFromAll_87, eX2_hearFromAll_88, eX2_hearFromAll_90, eX2_hearFromAll_93, am_bi, Int.reduceEq, Int.reduceLT, Int.reduceLE, Int.reduceToNat, ite_self, Decidable.not_not, not_true_eq_false, not_false_eq_true, ↓reduceIte, am_ci, am_cr, am_ca, am_b0, am_b1, am_ts, am_tn, am_then_some, List.cons_append, List.nil_append, ne_eq, iI_lit, iI_add, iI_sub, iI_mul, iI_neg, iI_lt, iI_le, iI_eq, iI_in, iI_clz, dI_ap, dI_wr, setR_s, wE_R, setR_2, setR_n, setR_o, updI_s, updI_n, updI_2, tl_0, tl_1, tl_2, tl_3, tl_4, tl_5, tl_6, tl_7, tl_8, tl_9, tl_10, tl_11, tl_12, tl_13, tl_14, tl_15, tl_16, tn_3, tn_5, tn_13, tn_21, tn_29, tn_33, tn_37, tn_41, tn_45, tn_49, tn_53, tn_57, tn_61, tn_40, tn_p, tn_0, true_and, and_true, sk_0, sk_1, sk_2, sl_2, sk_3, sl_3, sk_4, sl_4, sk_5, sl_5, sk_6, sl_6, sk_7, sl_7, sk_8, sl_8, sk_9, sl_9, sk_10, sl_10, sk_11, sl_11, sk_12, sl_12, sk_13, sk_14, sl_14, sk_15, sk_40, sk_41, sl_41, sk_330, sl_330, sk_355, sk_356, sl_356, sk_357, sl_357, sk_358, sl_358, sk_359, sl_359, sk_360, sl_360, sk_361, sk_362, sl_362, sk_363, sk_376, sk_377, sl_377, sk_378, sk_379, sl_379, sk_380, sl_380, sk_381, sl_381, sk_382, sl_382, sk_383, sl_383, sk_384, sl_384, sk_385, sl_385, sk_386, sl_386, sk_387, sl_387, sk_388, sl_388, sk_389, sl_389, sk_390, sl_390, sk_391, sl_391, sk_392, sl_392, sk_393, sl_393, sk_394, sl_394, sr_0_0, sr_0_1, sr_0_2, sr_0_3, sr_0_4, sr_0_5, sr_0_6, sr_0_7, sr_0_8, sr_0_9, sr_1_0, sr_1_1, sr_1_2, sr_13_0, sr_15_0, sr_15_2, sr_40_0, sr_355_0, sr_355_1, sr_355_2, sr_355_3, sr_355_4, sr_355_5, sr_361_2, sr_361_5, sr_361_6, sr_363_0, sr_363_1, sr_376_0, sr_376_2, sr_378_0, sr_378_1, sr_378_2, sr_378_4, sr_378_8, sr_378_10, sr_378_11, sr_378_12, sr_378_14, sr_378_20, sr_378_21, sr_378_22, sr_378_23, sr_378_24, sr_378_25, sr_378_26, am_vs, am_lg28.k, e0, dI_cp, List.length_nil, Nat.zero_le, Nat.zero_add, Nat.le_refl, Int.lt_irrefl]
    repeat (first | rw [if_pos (by omega)] | rw [if_neg (by omega)])
    trivial
