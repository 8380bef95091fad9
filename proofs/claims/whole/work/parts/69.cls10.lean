/-! ===== the class: a ship's days ===== -/
/-- on which day a ship can be in a port -/
abbrev cm0 (t : Nat → Int) (s : Nat) : Nat → Int := cmT t s (fun _ => 0)
theorem wyN_6 {t : Nat → Int} (hb : bT t) : wyN t 6 := fun w w8 w1 => by
  have := hb.2.2.2.2.2.2.1 w w8
  omega
theorem cm_f {t f : Nat → Int} (hb : bT t) {s : Nat} (hf : ∀ p, p < 6 → f p = if p = (t (33 + s)).toNat then bgT t s else 1000000) : ∀ p, p < 6 → piT t (tkT t s) f 5 p = cm0 t s p := fun p hp => by
  refine piT_cg hb.2.2.1 (N := 6) (fun p hp => ?_) (wyN_6 hb) (fun _ _ _ => rfl) 5 p (by omega)
  rw [hf p (by omega)]
  unfold lcT
  rw [if_pos (show p < 6 by omega)]
theorem c_foretellWithout {d s n : Nat} {E : Nat → Nat → Int} {t : Nat → Int} (hF : fR E t) (hs : s < 4) (hs2 : (s : Int) < t 2) (hn : n < 4) : ∃ g1 g2, (∀ p : Nat, (p : Int) < t 0 → g1 p = foV (foD t (2 ^ s) n p)) ∧ (∀ p, p < 6 → g2 p = cm0 t s p) ∧ am_sem (d + 4) 19 [.ref 355, .int (iI s), .int (iI n)] am_S0 (dI E) = some (none, am_S0, dI (setR (setR E 356 g1) 357 g2)) := by
  have hF0 := hF
  obtain ⟨⟨hR, hD⟩, hw, hqT⟩ := hF
  have hb := hw.1.1
  have a3 := hb.2.2.2.2.1
  obtain ⟨bk, bp, bd, bt⟩ := hb.2.2.2.2.2.2.2.1 s hs
  obtain ⟨sk, sp, sd, -⟩ := hqT.2.2.1 s hs hs2
  obtain ⟨s4, s5, -, s8⟩ := hR.2.2.1 s hs hs2
  obtain ⟨b, hb2⟩ := Int.eq_ofNat_of_zero_le bp.1
  have e3 : E 28 3 = t 3 := hR.1.2.2.2.1
  rw [hb2] at s5
  have hbg := bgT_b hb s
  have dk := hD s hs hs2
  have bc := hb.1 (37 + s)
  have hmx : (if E (28 + 6) s < t 3 then t 3 else E (28 + 6) s) = bgT t s := by
    unfold bgT
    split <;> split <;> omega
  obtain ⟨g1, hg1, H1⟩ := c_foretell (d := d) (m := 2 ^ s) (n := n) hF0 (p2_16 hs) hn
  have H2 := j_fill (d := d + 2) (q := 357) (L := 6) (z := 1000000) (E := setR E 356 g1) sk_357 sl_357 (by omega)
  have HS := c_spread (d := d + 1) (q := 357) (m := t (29 + s)) (dl := tkT t s) (E := setR (setR E 356 g1) 357 (updI (flT (setR E 356 g1 357) 1000000 6) b (bgT t s))) (by omega) (fR_s (fR_s hF0 (by omega)) (by omega)) (by omega) (fun w _ _ => (dy_tk (by omega)).symm) (fun p hp => by
    have := hb.2.1
    rw [setR_s]
    by_cases e : p = b
    · subst e; rw [updI_s]; omega
    · rw [updI_n e]; unfold flT; rw [if_pos (by omega)]; omega)
  rw [setR_s, setR_2] at HS
  refine ⟨g1, _, hg1, fun p hp => cm_f hb (f := updI (flT (setR E 356 g1 357) 1000000 6) b (bgT t s)) (fun p hp => ?_) p hp, mX2_foretellWithout rfl rfl ?_⟩
  · rw [hb2, show ((b : Int)).toNat = b from rfl]
    by_cases e : p = b
    · subst e; rw [updI_s, if_pos rfl]
    · rw [updI_n e, if_neg e]; unfold flT; rw [if_pos hp]
  · have hsh : (iI 1 <<< (iI (s : Int) &&& iI 31)) = iI ((2 ^ s : Nat) : Int) := iI_shl (by omega)
    simp (disch := first | omega | simp only [am_ci, am_cr, am_ca]) only [eX2_foretellWithout_0, eX2_foretellWithout_1, eX2_foretellWithout_2, eX2_foretellWithout_3, eX2_foretellWithout_4, eX2_foretellWithout_5, eX2_foretellWithout_8, eX2_foretellWithout_9, eX2_foretellWithout_12, eX2_foretellWithout_14, eX2_foretellWithout_17, eX2_foretellWithout_18, eX2_foretellWithout_21, eX2_foretellWithout_22, eX2_foretellWithout_25, eX2_foretellWithout_28, eX2_foretellWithout_29, eX2_foretellWithout_30, eX2_foretellWithout_31, eX2_foretellWithout_34, eX2_foretellWithout_37, eX2_foretellWithout_38, eX2_foretellWithout_39, eX2_foretellWithout_40, eX2_foretellWithout_43, eX2_foretellWithout_46, eX2_foretellWithout_49, eX2_foretellWithout_50, eX2_foretellWithout_51, eX2_foretellWithout_52, eX2_foretellWithout_55, eX2_foretellWithout_56, eX2_foretellWithout_59, eX2_foretellWithout_62, eX2_foretellWithout_63, eX2_foretellWithout_64, eX2_foretellWithout_67, am_bi, Int.reduceEq, Int.reduceLT, Int.reduceLE, Int.reduceToNat, ite_self, Decidable.not_not, not_true_eq_false, not_false_eq_true, ↓reduceIte, am_ci, am_cr, am_ca, am_b0, am_b1, am_ts, am_tn, am_then_some, List.cons_append, List.nil_append, ne_eq, iI_lit, iI_add, iI_sub, iI_mul, iI_neg, iI_lt, iI_le, iI_eq, iI_in, iI_clz, dI_ap, dI_wr, setR_s, wE_R, setR_2, setR_n, setR_o, updI_s, updI_n, updI_2, tl_0, tl_1, tl_2, tl_3, tl_4, tl_5, tl_6, tl_7, tl_8, tl_9, tl_10, tl_11, tl_12, tl_13, tl_14, tl_15, tl_16, tn_3, tn_5, tn_13, tn_21, tn_29, tn_33, tn_37, tn_41, tn_45, tn_49, tn_53, tn_57, tn_61, tn_40, tn_p, tn_0, true_and, and_true, sk_0, sk_1, sk_2, sl_2, sk_3, sl_3, sk_4, sl_4, sk_5, sl_5, sk_6, sl_6, sk_7, sl_7, sk_8, sl_8, sk_9, sl_9, sk_10, sl_10, sk_11, sl_11, sk_12, sl_12, sk_13, sk_14, sl_14, sk_15, sk_40, sk_41, sl_41, sk_330, sl_330, sk_355, sk_356, sl_356, sk_357, sl_357, sk_358, sl_358, sk_359, sl_359, sk_360, sl_360, sk_361, sk_362, sl_362, sk_363, sk_376, sk_377, sl_377, sk_378, sk_379, sl_379, sk_380, sl_380, sk_381, sl_381, sk_382, sl_382, sk_383, sl_383, sk_384, sl_384, sk_385, sl_385, sk_386, sl_386, sk_387, sl_387, sk_388, sl_388, sk_389, sl_389, sk_390, sl_390, sk_391, sl_391, sk_392, sl_392, sk_393, sl_393, sk_394, sl_394, sr_0_0, sr_0_1, sr_0_2, sr_0_3, sr_0_4, sr_0_5, sr_0_6, sr_0_7, sr_0_8, sr_0_9, sr_1_0, sr_1_1, sr_1_2, sr_13_0, sr_15_0, sr_15_2, sr_40_0, sr_355_0, sr_355_1, sr_355_2, sr_355_3, sr_355_4, sr_355_5, sr_361_2, sr_361_5, sr_361_6, sr_363_0, sr_363_1, sr_376_0, sr_376_2, sr_378_0, sr_378_1, sr_378_2, sr_378_4, sr_378_8, sr_378_10, sr_378_11, sr_378_12, sr_378_14, sr_378_20, sr_378_21, sr_378_22, sr_378_23, sr_378_24, sr_378_25, sr_378_26, am_vs, hsh, H1, H2, am_lg28.k, am_lg28.k5, am_lg28.r5, am_lg28.l5, am_lg28.k6, am_lg28.r6, am_lg28.l6, am_lg28.k4, am_lg28.r4, am_lg28.l4, s5, s4, e3, iI_ite, hmx]
    simp (disch := omega) only [setR_n] at HS
    simp (disch := first | omega | simp only [am_ci, am_cr, am_ca]) only [eX2_foretellWithout_0, eX2_foretellWithout_1, eX2_foretellWithout_2, eX2_foretellWithout_3, eX2_foretellWithout_4, eX2_foretellWithout_5, eX2_foretellWithout_8, eX2_foretellWithout_9, eX2_foretellWithout_12, eX2_foretellWithout_14, eX2_foretellWithout_17, eX2_foretellWithout_18, eX2_foretellWithout_21, eX2_foretellWithout_22, eX2_foretellWithout_25, eX2_foretellWithout_28, eX2_foretellWithout_29, eX2_foretellWithout_30, eX2_foretellWithout_31, eX2_foretellWithout_34, eX2_foretellWithout_37, eX2_foretellWithout_38, eX2_foretellWithout_39, eX2_foretellWithout_40, eX2_foretellWithout_43, eX2_foretellWithout_46, eX2_foretellWithout_49, eX2_foretellWithout_50, eX2_foretellWithout_51, eX2_foretellWithout_52, eX2_foretellWithout_55, eX2_foretellWithout_56, eX2_foretellWithout_59, eX2_foretellWithout_62, eX2_foretellWithout_63, eX2_foretellWithout_64, eX2_foretellWithout_67, am_bi, Int.reduceEq, Int.reduceLT, Int.reduceLE, Int.reduceToNat, ite_self, Decidable.not_not, not_true_eq_false, not_false_eq_true, ↓reduceIte, am_ci, am_cr, am_ca, am_b0, am_b1, am_ts, am_tn, am_then_some, List.cons_append, List.nil_append, ne_eq, iI_lit, iI_add, iI_sub, iI_mul, iI_neg, iI_lt, iI_le, iI_eq, iI_in, iI_clz, dI_ap, dI_wr, setR_s, wE_R, setR_2, setR_n, setR_o, updI_s, updI_n, updI_2, tl_0, tl_1, tl_2, tl_3, tl_4, tl_5, tl_6, tl_7, tl_8, tl_9, tl_10, tl_11, tl_12, tl_13, tl_14, tl_15, tl_16, tn_3, tn_5, tn_13, tn_21, tn_29, tn_33, tn_37, tn_41, tn_45, tn_49, tn_53, tn_57, tn_61, tn_40, tn_p, tn_0, true_and, and_true, sk_0, sk_1, sk_2, sl_2, sk_3, sl_3, sk_4, sl_4, sk_5, sl_5, sk_6, sl_6, sk_7, sl_7, sk_8, sl_8, sk_9, sl_9, sk_10, sl_10, sk_11, sl_11, sk_12, sl_12, sk_13, sk_14, sl_14, sk_15, sk_40, sk_41, sl_41, sk_330, sl_330, sk_355, sk_356, sl_356, sk_357, sl_357, sk_358, sl_358, sk_359, sl_359, sk_360, sl_360, sk_361, sk_362, sl_362, sk_363, sk_376, sk_377, sl_377, sk_378, sk_379, sl_379, sk_380, sl_380, sk_381, sl_381, sk_382, sl_382, sk_383, sl_383, sk_384, sl_384, sk_385, sl_385, sk_386, sl_386, sk_387, sl_387, sk_388, sl_388, sk_389, sl_389, sk_390, sl_390, sk_391, sl_391, sk_392, sl_392, sk_393, sl_393, sk_394, sl_394, sr_0_0, sr_0_1, sr_0_2, sr_0_3, sr_0_4, sr_0_5, sr_0_6, sr_0_7, sr_0_8, sr_0_9, sr_1_0, sr_1_1, sr_1_2, sr_13_0, sr_15_0, sr_15_2, sr_40_0, sr_355_0, sr_355_1, sr_355_2, sr_355_3, sr_355_4, sr_355_5, sr_361_2, sr_361_5, sr_361_6, sr_363_0, sr_363_1, sr_376_0, sr_376_2, sr_378_0, sr_378_1, sr_378_2, sr_378_4, sr_378_8, sr_378_10, sr_378_11, sr_378_12, sr_378_14, sr_378_20, sr_378_21, sr_378_22, sr_378_23, sr_378_24, sr_378_25, sr_378_26, am_vs, HS]
theorem cm_g {t : Nat → Int} (hb : bT t) {s : Nat} (g : Nat → Int) {p : Nat} (hp : p < 6) : cmT t s g p = cm0 t s p := by
  unfold cmT
  refine cm_f hb (fun p hp => ?_) p hp
  unfold lcT
  rw [if_pos hp]
theorem cm_b {t : Nat → Int} (hb : bT t) (h1 : w1T t) {s : Nat} (hs : s < 4) : (∀ p, p < 6 → 0 ≤ cm0 t s p ∧ cm0 t s p ≤ 1000000) ∧ cm0 t s (t (33 + s)).toNat = bgT t s := by
  have wy := wy_tk hb h1 s
  have hbg := bgT_b hb s
  have hp := (hb.2.2.2.2.2.2.2.1 s hs).2.1
  have le := fun p => piT_le t (tkT t s) (lcT (t (33 + s)).toNat (bgT t s) (fun _ => 0) 6) p 5
  have gf := gB_cm hb h1 s (fun _ => 0)
  have low := piT_g (t := t) (dl := tkT t s) (g := lcT (t (33 + s)).toNat (bgT t s) (fun _ => 0) 6) (h := fun p => if p < 6 then bgT t s else 0) wy.1.1 (fun p => by
    unfold lcT
    by_cases c : p < 6
    · rw [if_pos c, if_pos c]; split <;> omega
    · rw [if_neg c, if_neg c]; exact Int.le_refl _) (fun w hw => by
    have w8 : w < 8 := by have := wy.1; omega
    have we := wy.2.1 w w8
    have wl := wy.2.2.1 w w8
    simp only
    rw [if_pos (by omega), if_pos (by omega)]
    exact ⟨by omega, by omega⟩) (t (33 + s)).toNat 5
  rw [if_pos (by omega)] at low
  refine ⟨fun p hp => ⟨(gf p hp).1, ?_⟩, ?_⟩
  · have := le p
    have e : lcT (t (33 + s)).toNat (bgT t s) (fun _ => 0) 6 p ≤ 1000000 := by
      unfold lcT; rw [if_pos hp]; split <;> omega
    show piT t (tkT t s) (lcT (t (33 + s)).toNat (bgT t s) (fun _ => 0) 6) 5 p ≤ 1000000
    omega
  · have l := le (t (33 + s)).toNat
    have e : lcT (t (33 + s)).toNat (bgT t s) (fun _ => 0) 6 (t (33 + s)).toNat = bgT t s := by
      unfold lcT; rw [if_pos (by omega), if_pos rfl]
    show piT t (tkT t s) (lcT (t (33 + s)).toNat (bgT t s) (fun _ => 0) 6) 5 (t (33 + s)).toNat = bgT t s
    omega
/-- on which day a ship can first be one that knows, before it sails on -/
def knC (t : Nat → Int) (s n : Nat) (g1 g2 : Nat → Int) (p : Nat) : Int := if t (29 + s) = 5 then 1000000 else if bit (t (45 + s)) n then (if p = (t (33 + s)).toNat then g2 p else 1000000) else if (p : Int) < t 0 then (if g2 p < g1 p then g1 p else g2 p) else 1000000
theorem c_foretellKnowing {d s n : Nat} {E : Nat → Nat → Int} {t : Nat → Int} (hF : fR E t) (hs : s < 4) (hs2 : (s : Int) < t 2) (hn : n < 4) (hg1 : gBN (t 0) (E 356)) (hg2 : gBN (t 0) (E 357)) : ∃ g3, (∀ p, p < 6 → g3 p = knC t s n (E 356) (E 357) p) ∧ am_sem (d + 2) 20 [.ref 355, .int (iI s), .int (iI n)] am_S0 (dI E) = some (none, am_S0, dI (setR E 358 g3)) := by
  have hF0 := hF
  obtain ⟨⟨hR, hD⟩, hw, hqT⟩ := hF
  have hb := hw.1.1
  have a0 := hb.2.1
  obtain ⟨bk, bp, bd, bt⟩ := hb.2.2.2.2.2.2.2.1 s hs
  obtain ⟨sk, sp, sd, -⟩ := hqT.2.2.1 s hs hs2
  obtain ⟨s4, s5, -, s8⟩ := hR.2.2.1 s hs hs2
  obtain ⟨b, hb2⟩ := Int.eq_ofNat_of_zero_le bp.1
  rw [hb2] at s5
  obtain ⟨N, hN⟩ := Int.eq_ofNat_of_zero_le a0.1
  have e0 : E 28 0 = (N : Int) := by rw [hR.1.1, hN]
  have H2 := j_fill (d := d) (q := 358) (L := 6) (z := 1000000) (E := E) sk_358 sl_358 (by omega)
  have H1 := c_isTold (d := d) (a := 28) (s := s) (n := n) (E := setR E 358 (flT (E 358) 1000000 6)) am_lg28 hs (by omega) (by rw [setR_n (by omega), s8]; exact bt)
  rw [setR_n (by omega), s8] at H1
  unfold knC
  rw [hb2, hN, show ((b : Int)).toNat = b from rfl]
  by_cases c5 : t (29 + s) = 5
  · refine ⟨flT (E 358) 1000000 6, fun p hp => ?_, mX2_foretellKnowing rfl rfl ?_⟩
    · rw [if_pos c5]; unfold flT; rw [if_pos hp]
    · simp (disch := first | omega | simp only [am_ci, am_cr, am_ca]) only [eX2_foretellKnowing_0, eX2_foretellKnowing_1, eX2_foretellKnowing_4, eX2_foretellKnowing_6, eX2_foretellKnowing_9, eX2_foretellKnowing_10, eX2_foretellKnowing_13, eX2_foretellKnowing_16, eX2_foretellKnowing_17, eX2_foretellKnowing_18, eX2_foretellKnowing_19, eX2_foretellKnowing_22, eX2_foretellKnowing_23, eX2_foretellKnowing_24, eX2_foretellKnowing_27, eX2_foretellKnowing_28, eX2_foretellKnowing_29, eX2_foretellKnowing_32, eX2_foretellKnowing_35, eX2_foretellKnowing_36, eX2_foretellKnowing_39, eX2_foretellKnowing_42, eX2_foretellKnowing_43, eX2_foretellKnowing_44, eX2_foretellKnowing_45, eX2_foretellKnowing_46, eX2_foretellKnowing_49, eX2_foretellKnowing_50, eX2_foretellKnowing_51, eX2_foretellKnowing_54, eX2_foretellKnowing_55, eX2_foretellKnowing_56, eX2_foretellKnowing_57, eX2_foretellKnowing_58, am_bi, Int.reduceEq, Int.reduceLT, Int.reduceLE, Int.reduceToNat, ite_self, Decidable.not_not, not_true_eq_false, not_false_eq_true, ↓reduceIte, am_ci, am_cr, am_ca, am_b0, am_b1, am_ts, am_tn, am_then_some, List.cons_append, List.nil_append, ne_eq, iI_lit, iI_add, iI_sub, iI_mul, iI_neg, iI_lt, iI_le, iI_eq, iI_in, iI_clz, dI_ap, dI_wr, setR_s, wE_R, setR_2, setR_n, setR_o, updI_s, updI_n, updI_2, tl_0, tl_1, tl_2, tl_3, tl_4, tl_5, tl_6, tl_7, tl_8, tl_9, tl_10, tl_11, tl_12, tl_13, tl_14, tl_15, tl_16, tn_3, tn_5, tn_13, tn_21, tn_29, tn_33, tn_37, tn_41, tn_45, tn_49, tn_53, tn_57, tn_61, tn_40, tn_p, tn_0, true_and, and_true, sk_0, sk_1, sk_2, sl_2, sk_3, sl_3, sk_4, sl_4, sk_5, sl_5, sk_6, sl_6, sk_7, sl_7, sk_8, sl_8, sk_9, sl_9, sk_10, sl_10, sk_11, sl_11, sk_12, sl_12, sk_13, sk_14, sl_14, sk_15, sk_40, sk_41, sl_41, sk_330, sl_330, sk_355, sk_356, sl_356, sk_357, sl_357, sk_358, sl_358, sk_359, sl_359, sk_360, sl_360, sk_361, sk_362, sl_362, sk_363, sk_376, sk_377, sl_377, sk_378, sk_379, sl_379, sk_380, sl_380, sk_381, sl_381, sk_382, sl_382, sk_383, sl_383, sk_384, sl_384, sk_385, sl_385, sk_386, sl_386, sk_387, sl_387, sk_388, sl_388, sk_389, sl_389, sk_390, sl_390, sk_391, sl_391, sk_392, sl_392, sk_393, sl_393, sk_394, sl_394, sr_0_0, sr_0_1, sr_0_2, sr_0_3, sr_0_4, sr_0_5, sr_0_6, sr_0_7, sr_0_8, sr_0_9, sr_1_0, sr_1_1, sr_1_2, sr_13_0, sr_15_0, sr_15_2, sr_40_0, sr_355_0, sr_355_1, sr_355_2, sr_355_3, sr_355_4, sr_355_5, sr_361_2, sr_361_5, sr_361_6, sr_363_0, sr_363_1, sr_376_0, sr_376_2, sr_378_0, sr_378_1, sr_378_2, sr_378_4, sr_378_8, sr_378_10, sr_378_11, sr_378_12, sr_378_14, sr_378_20, sr_378_21, sr_378_22, sr_378_23, sr_378_24, sr_378_25, sr_378_26, am_vs, H2, am_lg28.k, am_lg28.k4, am_lg28.r4, am_lg28.l4, s4, c5]
      all_goals ((repeat' split) <;> first | rfl | trivial | (exfalso; omega))
  · by_cases ct : (t (45 + s)).toNat / 2 ^ n % 2 = 1
    · have gb := hg2 b (by omega)
      refine ⟨updI (flT (E 358) 1000000 6) b (E 357 b), fun p hp => ?_, mX2_foretellKnowing rfl rfl ?_⟩
      · rw [if_neg c5, if_pos ct]
        by_cases e : p = b
        · subst e; rw [updI_s, if_pos rfl]
        · rw [updI_n e, if_neg e]; unfold flT; rw [if_pos hp]
      · simp (disch := first | omega | simp only [am_ci, am_cr, am_ca]) only [eX2_foretellKnowing_0, eX2_foretellKnowing_1, eX2_foretellKnowing_4, eX2_foretellKnowing_6, eX2_foretellKnowing_9, eX2_foretellKnowing_10, eX2_foretellKnowing_13, eX2_foretellKnowing_16, eX2_foretellKnowing_17, eX2_foretellKnowing_18, eX2_foretellKnowing_19, eX2_foretellKnowing_22, eX2_foretellKnowing_23, eX2_foretellKnowing_24, eX2_foretellKnowing_27, eX2_foretellKnowing_28, eX2_foretellKnowing_29, eX2_foretellKnowing_32, eX2_foretellKnowing_35, eX2_foretellKnowing_36, eX2_foretellKnowing_39, eX2_foretellKnowing_42, eX2_foretellKnowing_43, eX2_foretellKnowing_44, eX2_foretellKnowing_45, eX2_foretellKnowing_46, eX2_foretellKnowing_49, eX2_foretellKnowing_50, eX2_foretellKnowing_51, eX2_foretellKnowing_54, eX2_foretellKnowing_55, eX2_foretellKnowing_56, eX2_foretellKnowing_57, eX2_foretellKnowing_58, am_bi, Int.reduceEq, Int.reduceLT, Int.reduceLE, Int.reduceToNat, ite_self, Decidable.not_not, not_true_eq_false, not_false_eq_true, ↓reduceIte, am_ci, am_cr, am_ca, am_b0, am_b1, am_ts, am_tn, am_then_some, List.cons_append, List.nil_append, ne_eq, iI_lit, iI_add, iI_sub, iI_mul, iI_neg, iI_lt, iI_le, iI_eq, iI_in, iI_clz, dI_ap, dI_wr, setR_s, wE_R, setR_2, setR_n, setR_o, updI_s, updI_n, updI_2, tl_0, tl_1, tl_2, tl_3, tl_4, tl_5, tl_6, tl_7, tl_8, tl_9, tl_10, tl_11, tl_12, tl_13, tl_14, tl_15, tl_16, tn_3, tn_5, tn_13, tn_21, tn_29, tn_33, tn_37, tn_41, tn_45, tn_49, tn_53, tn_57, tn_61, tn_40, tn_p, tn_0, true_and, and_true, sk_0, sk_1, sk_2, sl_2, sk_3, sl_3, sk_4, sl_4, sk_5, sl_5, sk_6, sl_6, sk_7, sl_7, sk_8, sl_8, sk_9, sl_9, sk_10, sl_10, sk_11, sl_11, sk_12, sl_12, sk_13, sk_14, sl_14, sk_15, sk_40, sk_41, sl_41, sk_330, sl_330, sk_355, sk_356, sl_356, sk_357, sl_357, sk_358, sl_358, sk_359, sl_359, sk_360, sl_360, sk_361, sk_362, sl_362, sk_363, sk_376, sk_377, sl_377, sk_378, sk_379, sl_379, sk_380, sl_380, sk_381, sl_381, sk_382, sl_382, sk_383, sl_383, sk_384, sl_384, sk_385, sl_385, sk_386, sl_386, sk_387, sl_387, sk_388, sl_388, sk_389, sl_389, sk_390, sl_390, sk_391, sl_391, sk_392, sl_392, sk_393, sl_393, sk_394, sl_394, sr_0_0, sr_0_1, sr_0_2, sr_0_3, sr_0_4, sr_0_5, sr_0_6, sr_0_7, sr_0_8, sr_0_9, sr_1_0, sr_1_1, sr_1_2, sr_13_0, sr_15_0, sr_15_2, sr_40_0, sr_355_0, sr_355_1, sr_355_2, sr_355_3, sr_355_4, sr_355_5, sr_361_2, sr_361_5, sr_361_6, sr_363_0, sr_363_1, sr_376_0, sr_376_2, sr_378_0, sr_378_1, sr_378_2, sr_378_4, sr_378_8, sr_378_10, sr_378_11, sr_378_12, sr_378_14, sr_378_20, sr_378_21, sr_378_22, sr_378_23, sr_378_24, sr_378_25, sr_378_26, am_vs, H2, am_lg28.k, am_lg28.k4, am_lg28.r4, am_lg28.l4, am_lg28.k5, am_lg28.r5, am_lg28.l5, s4, s5, c5, H1, ct]
        all_goals ((repeat' split) <;> first | rfl | trivial | (exfalso; omega))
    · obtain ⟨g, hg, he⟩ := am_fwd (X := Nat → Int) (I := fun k g => (∀ p, p < k → g p = if E 357 p < E 356 p then E 356 p else E 357 p) ∧ ∀ p, k ≤ p → p < 6 → g p = 1000000) (ev := fun k g R => am_ev (am_sem (d + 1)) 2 cX2_foretellKnowing 60 [.ref 355, .int (iI s), .int (iI n), .int (iI k)] [] am_S0 (dI (setR E 358 g)) R) (n := N) (by
        rintro k g hk ⟨h1, h2⟩
        have x1 := hg1 k (by omega)
        have x2 := hg2 k (by omega)
        refine ⟨updI g k (if E 357 k < E 356 k then E 356 k else E 357 k), ⟨fun p hp => ?_, fun p hp hp2 => ?_⟩, fun R ih => ?_⟩
        · by_cases e : p = k
          · subst e; rw [updI_s]
          · rw [updI_n e]; exact h1 p (by omega)
        · rw [updI_n (by omega)]; exact h2 p (by omega) hp2
        · rw [eX2_foretellKnowing_60]
          simp (disch := first | omega | simp only [am_ci, am_cr, am_ca]) only [eX2_foretellKnowing_61, eX2_foretellKnowing_62, eX2_foretellKnowing_65, eX2_foretellKnowing_68, eX2_foretellKnowing_71, eX2_foretellKnowing_72, eX2_foretellKnowing_75, eX2_foretellKnowing_76, eX2_foretellKnowing_77, eX2_foretellKnowing_80, eX2_foretellKnowing_81, eX2_foretellKnowing_82, eX2_foretellKnowing_83, eX2_foretellKnowing_86, eX2_foretellKnowing_87, eX2_foretellKnowing_88, eX2_foretellKnowing_91, eX2_foretellKnowing_92, eX2_foretellKnowing_95, am_bi, Int.reduceEq, Int.reduceLT, Int.reduceLE, Int.reduceToNat, ite_self, Decidable.not_not, not_true_eq_false, not_false_eq_true, ↓reduceIte, am_ci, am_cr, am_ca, am_b0, am_b1, am_ts, am_tn, am_then_some, List.cons_append, List.nil_append, ne_eq, iI_lit, iI_add, iI_sub, iI_mul, iI_neg, iI_lt, iI_le, iI_eq, iI_in, iI_clz, dI_ap, dI_wr, setR_s, wE_R, setR_2, setR_n, setR_o, updI_s, updI_n, updI_2, tl_0, tl_1, tl_2, tl_3, tl_4, tl_5, tl_6, tl_7, tl_8, tl_9, tl_10, tl_11, tl_12, tl_13, tl_14, tl_15, tl_16, tn_3, tn_5, tn_13, tn_21, tn_29, tn_33, tn_37, tn_41, tn_45, tn_49, tn_53, tn_57, tn_61, tn_40, tn_p, tn_0, true_and, and_true, sk_0, sk_1, sk_2, sl_2, sk_3, sl_3, sk_4, sl_4, sk_5, sl_5, sk_6, sl_6, sk_7, sl_7, sk_8, sl_8, sk_9, sl_9, sk_10, sl_10, sk_11, sl_11, sk_12, sl_12, sk_13, sk_14, sl_14, sk_15, sk_40, sk_41, sl_41, sk_330, sl_330, sk_355, sk_356, sl_356, sk_357, sl_357, sk_358, sl_358, sk_359, sl_359, sk_360, sl_360, sk_361, sk_362, sl_362, sk_363, sk_376, sk_377, sl_377, sk_378, sk_379, sl_379, sk_380, sl_380, sk_381, sl_381, sk_382, sl_382, sk_383, sl_383, sk_384, sl_384, sk_385, sl_385, sk_386, sl_386, sk_387, sl_387, sk_388, sl_388, sk_389, sl_389, sk_390, sl_390, sk_391, sl_391, sk_392, sl_392, sk_393, sl_393, sk_394, sl_394, sr_0_0, sr_0_1, sr_0_2, sr_0_3, sr_0_4, sr_0_5, sr_0_6, sr_0_7, sr_0_8, sr_0_9, sr_1_0, sr_1_1, sr_1_2, sr_13_0, sr_15_0, sr_15_2, sr_40_0, sr_355_0, sr_355_1, sr_355_2, sr_355_3, sr_355_4, sr_355_5, sr_361_2, sr_361_5, sr_361_6, sr_363_0, sr_363_1, sr_376_0, sr_376_2, sr_378_0, sr_378_1, sr_378_2, sr_378_4, sr_378_8, sr_378_10, sr_378_11, sr_378_12, sr_378_14, sr_378_20, sr_378_21, sr_378_22, sr_378_23, sr_378_24, sr_378_25, sr_378_26, am_vs, am_lg28.k, e0, iI_ite]
          rw [if_neg (by omega)]
          exact ih) (k := 0) (x := flT (E 358) 1000000 6) (by omega) ⟨fun p hp => by omega, fun p _ hp => by unfold flT; rw [if_pos hp]⟩
      refine ⟨g, fun p hp => ?_, mX2_foretellKnowing rfl rfl ?_⟩
      · rw [if_neg c5, if_neg ct]
        by_cases c : p < N
        · rw [if_pos (by omega)]; exact hg.1 p c
        · rw [if_neg (by omega)]; exact hg.2 p (by omega) hp
      · simp (disch := first | omega | simp only [am_ci, am_cr, am_ca]) only [eX2_foretellKnowing_0, eX2_foretellKnowing_1, eX2_foretellKnowing_4, eX2_foretellKnowing_6, eX2_foretellKnowing_9, eX2_foretellKnowing_10, eX2_foretellKnowing_13, eX2_foretellKnowing_16, eX2_foretellKnowing_17, eX2_foretellKnowing_18, eX2_foretellKnowing_19, eX2_foretellKnowing_22, eX2_foretellKnowing_23, eX2_foretellKnowing_24, eX2_foretellKnowing_27, eX2_foretellKnowing_28, eX2_foretellKnowing_29, eX2_foretellKnowing_32, eX2_foretellKnowing_35, eX2_foretellKnowing_36, eX2_foretellKnowing_39, eX2_foretellKnowing_42, eX2_foretellKnowing_43, eX2_foretellKnowing_44, eX2_foretellKnowing_45, eX2_foretellKnowing_46, eX2_foretellKnowing_49, eX2_foretellKnowing_50, eX2_foretellKnowing_51, eX2_foretellKnowing_54, eX2_foretellKnowing_55, eX2_foretellKnowing_56, eX2_foretellKnowing_57, eX2_foretellKnowing_58, eX2_foretellKnowing_59, am_bi, Int.reduceEq, Int.reduceLT, Int.reduceLE, Int.reduceToNat, ite_self, Decidable.not_not, not_true_eq_false, not_false_eq_true, ↓reduceIte, am_ci, am_cr, am_ca, am_b0, am_b1, am_ts, am_tn, am_then_some, List.cons_append, List.nil_append, ne_eq, iI_lit, iI_add, iI_sub, iI_mul, iI_neg, iI_lt, iI_le, iI_eq, iI_in, iI_clz, dI_ap, dI_wr, setR_s, wE_R, setR_2, setR_n, setR_o, updI_s, updI_n, updI_2, tl_0, tl_1, tl_2, tl_3, tl_4, tl_5, tl_6, tl_7, tl_8, tl_9, tl_10, tl_11, tl_12, tl_13, tl_14, tl_15, tl_16, tn_3, tn_5, tn_13, tn_21, tn_29, tn_33, tn_37, tn_41, tn_45, tn_49, tn_53, tn_57, tn_61, tn_40, tn_p, tn_0, true_and, and_true, sk_0, sk_1, sk_2, sl_2, sk_3, sl_3, sk_4, sl_4, sk_5, sl_5, sk_6, sl_6, sk_7, sl_7, sk_8, sl_8, sk_9, sl_9, sk_10, sl_10, sk_11, sl_11, sk_12, sl_12, sk_13, sk_14, sl_14, sk_15, sk_40, sk_41, sl_41, sk_330, sl_330, sk_355, sk_356, sl_356, sk_357, sl_357, sk_358, sl_358, sk_359, sl_359, sk_360, sl_360, sk_361, sk_362, sl_362, sk_363, sk_376, sk_377, sl_377, sk_378, sk_379, sl_379, sk_380, sl_380, sk_381, sl_381, sk_382, sl_382, sk_383, sl_383, sk_384, sl_384, sk_385, sl_385, sk_386, sl_386, sk_387, sl_387, sk_388, sl_388, sk_389, sl_389, sk_390, sl_390, sk_391, sl_391, sk_392, sl_392, sk_393, sl_393, sk_394, sl_394, sr_0_0, sr_0_1, sr_0_2, sr_0_3, sr_0_4, sr_0_5, sr_0_6, sr_0_7, sr_0_8, sr_0_9, sr_1_0, sr_1_1, sr_1_2, sr_13_0, sr_15_0, sr_15_2, sr_40_0, sr_355_0, sr_355_1, sr_355_2, sr_355_3, sr_355_4, sr_355_5, sr_361_2, sr_361_5, sr_361_6, sr_363_0, sr_363_1, sr_376_0, sr_376_2, sr_378_0, sr_378_1, sr_378_2, sr_378_4, sr_378_8, sr_378_10, sr_378_11, sr_378_12, sr_378_14, sr_378_20, sr_378_21, sr_378_22, sr_378_23, sr_378_24, sr_378_25, sr_378_26, am_vs, H2, am_lg28.k, am_lg28.k4, am_lg28.r4, am_lg28.l4, s4, c5, H1, ct]
        repeat (first | rw [if_pos (by omega)] | rw [if_neg (by omega)])
        refine he _ ?_
        rw [eX2_foretellKnowing_60]
        simp (disch := first | omega | simp only [am_ci, am_cr, am_ca]) only [eX2_foretellKnowing_61, eX2_foretellKnowing_62, eX2_foretellKnowing_65, eX2_foretellKnowing_68, eX2_foretellKnowing_71, eX2_foretellKnowing_72, eX2_foretellKnowing_75, eX2_foretellKnowing_76, eX2_foretellKnowing_77, eX2_foretellKnowing_80, eX2_foretellKnowing_81, eX2_foretellKnowing_82, eX2_foretellKnowing_83, eX2_foretellKnowing_86, eX2_foretellKnowing_87, eX2_foretellKnowing_88, eX2_foretellKnowing_91, eX2_foretellKnowing_92, eX2_foretellKnowing_95, eX2_foretellKnowing_98, am_bi, Int.reduceEq, Int.reduceLT, Int.reduceLE, Int.reduceToNat, ite_self, Decidable.not_not, not_true_eq_false, not_false_eq_true, ↓reduceIte, am_ci, am_cr, am_ca, am_b0, am_b1, am_ts, am_tn, am_then_some, List.cons_append, List.nil_append, ne_eq, iI_lit, iI_add, iI_sub, iI_mul, iI_neg, iI_lt, iI_le, iI_eq, iI_in, iI_clz, dI_ap, dI_wr, setR_s, wE_R, setR_2, setR_n, setR_o, updI_s, updI_n, updI_2, tl_0, tl_1, tl_2, tl_3, tl_4, tl_5, tl_6, tl_7, tl_8, tl_9, tl_10, tl_11, tl_12, tl_13, tl_14, tl_15, tl_16, tn_3, tn_5, tn_13, tn_21, tn_29, tn_33, tn_37, tn_41, tn_45, tn_49, tn_53, tn_57, tn_61, tn_40, tn_p, tn_0, true_and, and_true, sk_0, sk_1, sk_2, sl_2, sk_3, sl_3, sk_4, sl_4, sk_5, sl_5, sk_6, sl_6, sk_7, sl_7, sk_8, sl_8, sk_9, sl_9, sk_10, sl_10, sk_11, sl_11, sk_12, sl_12, sk_13, sk_14, sl_14, sk_15, sk_40, sk_41, sl_41, sk_330, sl_330, sk_355, sk_356, sl_356, sk_357, sl_357, sk_358, sl_358, sk_359, sl_359, sk_360, sl_360, sk_361, sk_362, sl_362, sk_363, sk_376, sk_377, sl_377, sk_378, sk_379, sl_379, sk_380, sl_380, sk_381, sl_381, sk_382, sl_382, sk_383, sl_383, sk_384, sl_384, sk_385, sl_385, sk_386, sl_386, sk_387, sl_387, sk_388, sl_388, sk_389, sl_389, sk_390, sl_390, sk_391, sl_391, sk_392, sl_392, sk_393, sl_393, sk_394, sl_394, sr_0_0, sr_0_1, sr_0_2, sr_0_3, sr_0_4, sr_0_5, sr_0_6, sr_0_7, sr_0_8, sr_0_9, sr_1_0, sr_1_1, sr_1_2, sr_13_0, sr_15_0, sr_15_2, sr_40_0, sr_355_0, sr_355_1, sr_355_2, sr_355_3, sr_355_4, sr_355_5, sr_361_2, sr_361_5, sr_361_6, sr_363_0, sr_363_1, sr_376_0, sr_376_2, sr_378_0, sr_378_1, sr_378_2, sr_378_4, sr_378_8, sr_378_10, sr_378_11, sr_378_12, sr_378_14, sr_378_20, sr_378_21, sr_378_22, sr_378_23, sr_378_24, sr_378_25, sr_378_26, am_vs, am_lg28.k, e0]
        repeat (first | rw [if_pos (by omega)] | rw [if_neg (by omega)])
        trivial
/-- the reference's row of days, -1 where it never comes -/
def woR (t : Nat → Int) (m n : Nat) (wo : Nat → Int) : Prop := ∀ p, p < 6 → (foD t m n p ≤ 150 → wo p = foD t m n p) ∧ (150 < foD t m n p → wo p < 0)
theorem br_eq {t : Nat → Int} (hw : wT t) (hq : qT t) {s n : Nat} (hs : s < 4) (hs2 : (s : Int) < t 2) (hn : n < 4) {wo g1 g2 g3 gc gb : Nat → Int} (hwo : woR t (2 ^ s) n wo) (hg1 : ∀ p : Nat, (p : Int) < t 0 → g1 p = foV (foD t (2 ^ s) n p)) (hg2 : ∀ p, p < 6 → g2 p = cm0 t s p) (hg3 : ∀ p, p < 6 → g3 p = knC t s n g1 g2 p) : ∀ p : Nat, (p : Int) < t 0 → piT t (tkT t s) g3 5 p = brT t s n wo (cmT t s gc) gb p := by
  intro p hp
  have hb := hw.1.1
  have h1 : w1T t := hq.1.2.2.1
  have a0 := hb.2.1
  have sh := hq.2.2.1 s hs hs2
  have wy := wyN_q hw hq
  obtain ⟨c1, c2⟩ := cm_b hb h1 hs
  have bp := (hb.2.2.2.2.2.2.2.1 s hs).2.1
  unfold brT
  by_cases c5 : t (29 + s) = 5
  · have z := sh.2.2.2.1 c5
    refine piT_cg hb.2.2.1 (fun p hp => ?_) wy (fun _ _ _ => rfl) 5 p hp
    rw [hg3 p (by omega)]
    unfold knC kwT kwV
    rw [if_pos c5, if_pos (show p < 6 by omega), if_neg (show ¬ (t (45 + s)).toNat / 2 ^ n % 2 = 1 by rw [z]; simp), if_pos (Or.inr c5)]
  · by_cases ct : bit (t (45 + s)) n
    · have l : piT t (tkT t s) g3 5 p = cm0 t s p := cm_f hb (fun p hp => by
        rw [hg3 p hp]
        unfold knC
        rw [if_neg c5, if_pos ct]
        by_cases e : p = (t (33 + s)).toNat
        · rw [if_pos e, if_pos e, hg2 p hp, e, c2]
        · rw [if_neg e, if_neg e]) p (by omega)
      have fx : paT t (tkT t s) (cm0 t s) (t 1).toNat = cm0 t s := piT_5 (wy_tk hb h1 s) (gB_lc (by have := bgT_b hb s; omega))
      have fx2 : piT t (tkT t s) (cm0 t s) 5 = cm0 t s := piT_fix (n := 0) (g := cm0 t s) fx 5
      rw [l, ← fx2]
      refine (piT_cg hb.2.2.1 (fun p hp => ?_) wy (fun _ _ _ => rfl) 5 p hp).symm
      have e : cm0 t s p = cmT t s gc p := (cm_g hb gc (by omega)).symm
      rw [e]
      unfold kwT kwV
      rw [if_pos (show p < 6 by omega), if_pos ct]
    · refine piT_cg hb.2.2.1 (fun p hp => ?_) wy (fun _ _ _ => rfl) 5 p hp
      have p6 : p < 6 := by omega
      have wp := hwo p p6
      have cp := c1 p p6
      rw [hg3 p p6]
      unfold knC kwT kwV
      rw [if_neg c5, if_neg ct, if_pos hp, if_pos p6, if_neg ct, hg1 p hp, hg2 p p6, cm_g hb gc p6]
      unfold foV
      by_cases c : 150 < foD t (2 ^ s) n p
      · rw [if_pos c, if_pos (Or.inl (wp.2 c))]
        split <;> omega
      · have e := wp.1 (by omega)
        have d0 := (foD_p hw hq (2 ^ s) hn).1 p p6
        have hno : ¬ (foD t (2 ^ s) n p < 0 ∨ t (29 + s) = 5) := by omega
        rw [if_neg c, e, if_neg hno]
theorem c_dayCarried {d s p n : Nat} {E : Nat → Nat → Int} {t : Nat → Int} {wo gc gb : Nat → Int} (hF : fR E t) (hs : s < 4) (hs2 : (s : Int) < t 2) (hp : (p : Int) < t 0) (hn : n < 4) (hwo : woR t (2 ^ s) n wo) : ∃ E', (∀ b, (b < 356 ∨ 358 < b) → E' b = E b) ∧ am_sem (d + 5) 18 [.ref 355, .int (iI s), .int (iI p), .int (iI n)] am_S0 (dI E) = some (some (.int (iI (ltV (wo p) (brT t s n wo (cmT t s gc) gb p)))), am_S0, dI E') := by
  have hF0 := hF
  obtain ⟨⟨hR, hD⟩, hw, hqT⟩ := hF
  have hb := hw.1.1
  have h1 : w1T t := hqT.1.2.2.1
  have a0 := hb.2.1
  have wy := wyN_q hw hqT
  obtain ⟨bk, bp, bd, bt⟩ := hb.2.2.2.2.2.2.2.1 s hs
  obtain ⟨sk, sp, sd, -⟩ := hqT.2.2.1 s hs hs2
  obtain ⟨s4, -, -, -⟩ := hR.2.2.1 s hs hs2
  obtain ⟨g1, g2, hg1, hg2, H1⟩ := c_foretellWithout (d := d) (n := n) hF0 hs hs2 hn
  have hDB := (foD_p hw hqT (2 ^ s) hn).1
  have b1 : gBN (t 0) g1 := fun p hp => by
    have := hDB p (by omega)
    rw [hg1 p hp]; unfold foV; split <;> omega
  obtain ⟨cb, -⟩ := cm_b hb h1 hs
  have b2 : gBN (t 0) g2 := fun p hp => by have := cb p (by omega); rw [hg2 p (by omega)]; omega
  have hF1 : fR (setR (setR E 356 g1) 357 g2) t := fR_s (fR_s hF0 (by omega)) (by omega)
  obtain ⟨g3, hg3, H2⟩ := c_foretellKnowing (d := d + 2) (n := n) hF1 hs hs2 hn (by rw [setR_n (by omega), setR_s]; exact b1) (by rw [setR_s]; exact b2)
  rw [setR_n (by omega), setR_s, setR_s] at hg3
  have b3 : gBN (t 0) g3 := fun p hp => by
    have x1 := b1 p hp
    have x2 := b2 p hp
    rw [hg3 p (by omega)]
    unfold knC
    (repeat' split) <;> omega
  have HS := c_spread (d := d + 2) (q := 358) (m := t (29 + s)) (dl := tkT t s) (E := setR (setR (setR E 356 g1) 357 g2) 358 g3) (by omega) (fR_s hF1 (by omega)) (by omega) (fun w _ _ => (dy_tk (by omega)).symm) (by rw [setR_s]; exact b3)
  rw [setR_s, setR_2] at HS
  have be := br_eq hw hqT hs hs2 hn (gc := gc) (gb := gb) hwo hg1 hg2 hg3 p hp
  have b4 := gBN_pi b3 hb.2.2.1 wy (fun w w8 w1 => (wy_tk hb h1 s).2.2.1 w w8) 5 p hp
  have x1 := b1 p hp
  have l3 := piT_le t (tkT t s) g3 p 5
  have hv : (if piT t (tkT t s) g3 5 p < g1 p then piT t (tkT t s) g3 5 p else g1 p) = ltV (wo p) (brT t s n wo (cmT t s gc) gb p) := by
    rw [← be]
    have wp := hwo p (by omega)
    have d0 := hDB p (by omega)
    have c2 := cb p (by omega)
    unfold ltV
    rw [hg1 p hp]
    unfold foV
    by_cases c : 150 < foD t (2 ^ s) n p
    · have h3 : g3 p ≤ 1000000 := by
        rw [hg3 p (by omega)]
        unfold knC
        rw [hg1 p hp, hg2 p (by omega)]
        unfold foV
        (repeat' split) <;> omega
      rw [if_pos c, if_pos (Or.inl (wp.2 c))]
      split <;> omega
    · rw [if_neg c, wp.1 (by omega)]
      split
      · rename_i c2; rw [if_pos (Or.inr c2)]
      · rename_i c2; rw [if_neg (by omega)]
  refine ⟨setR (setR (setR E 356 g1) 357 g2) 358 (piT t (tkT t s) g3 5), fun b hb => by rw [setR_n (by omega), setR_n (by omega), setR_n (by omega)], mX2_dayCarried rfl rfl ?_⟩
  simp (disch := first | omega | simp only [am_ci, am_cr, am_ca]) only [eX2_dayCarried_0, eX2_dayCarried_1, eX2_dayCarried_2, eX2_dayCarried_3, eX2_dayCarried_6, eX2_dayCarried_7, eX2_dayCarried_8, eX2_dayCarried_9, eX2_dayCarried_12, eX2_dayCarried_13, eX2_dayCarried_14, eX2_dayCarried_17, eX2_dayCarried_18, eX2_dayCarried_21, eX2_dayCarried_24, eX2_dayCarried_25, eX2_dayCarried_26, eX2_dayCarried_29, eX2_dayCarried_30, eX2_dayCarried_33, eX2_dayCarried_34, eX2_dayCarried_35, eX2_dayCarried_36, eX2_dayCarried_39, eX2_dayCarried_40, eX2_dayCarried_41, eX2_dayCarried_44, am_bi, Int.reduceEq, Int.reduceLT, Int.reduceLE, Int.reduceToNat, ite_self, Decidable.not_not, not_true_eq_false, not_false_eq_true, ↓reduceIte, am_ci, am_cr, am_ca, am_b0, am_b1, am_ts, am_tn, am_then_some, List.cons_append, List.nil_append, ne_eq, iI_lit, iI_add, iI_sub, iI_mul, iI_neg, iI_lt, iI_le, iI_eq, iI_in, iI_clz, dI_ap, dI_wr, setR_s, wE_R, setR_2, setR_n, setR_o, updI_s, updI_n, updI_2, tl_0, tl_1, tl_2, tl_3, tl_4, tl_5, tl_6, tl_7, tl_8, tl_9, tl_10, tl_11, tl_12, tl_13, tl_14, tl_15, tl_16, tn_3, tn_5, tn_13, tn_21, tn_29, tn_33, tn_37, tn_41, tn_45, tn_49, tn_53, tn_57, tn_61, tn_40, tn_p, tn_0, true_and, and_true, sk_0, sk_1, sk_2, sl_2, sk_3, sl_3, sk_4, sl_4, sk_5, sl_5, sk_6, sl_6, sk_7, sl_7, sk_8, sl_8, sk_9, sl_9, sk_10, sl_10, sk_11, sl_11, sk_12, sl_12, sk_13, sk_14, sl_14, sk_15, sk_40, sk_41, sl_41, sk_330, sl_330, sk_355, sk_356, sl_356, sk_357, sl_357, sk_358, sl_358, sk_359, sl_359, sk_360, sl_360, sk_361, sk_362, sl_362, sk_363, sk_376, sk_377, sl_377, sk_378, sk_379, sl_379, sk_380, sl_380, sk_381, sl_381, sk_382, sl_382, sk_383, sl_383, sk_384, sl_384, sk_385, sl_385, sk_386, sl_386, sk_387, sl_387, sk_388, sl_388, sk_389, sl_389, sk_390, sl_390, sk_391, sl_391, sk_392, sl_392, sk_393, sl_393, sk_394, sl_394, sr_0_0, sr_0_1, sr_0_2, sr_0_3, sr_0_4, sr_0_5, sr_0_6, sr_0_7, sr_0_8, sr_0_9, sr_1_0, sr_1_1, sr_1_2, sr_13_0, sr_15_0, sr_15_2, sr_40_0, sr_355_0, sr_355_1, sr_355_2, sr_355_3, sr_355_4, sr_355_5, sr_361_2, sr_361_5, sr_361_6, sr_363_0, sr_363_1, sr_376_0, sr_376_2, sr_378_0, sr_378_1, sr_378_2, sr_378_4, sr_378_8, sr_378_10, sr_378_11, sr_378_12, sr_378_14, sr_378_20, sr_378_21, sr_378_22, sr_378_23, sr_378_24, sr_378_25, sr_378_26, am_vs, H1, H2, am_lg28.k, am_lg28.k4, am_lg28.r4, am_lg28.l4, s4, HS, iI_ite, hv]
theorem c_daysAhead {d s p n : Nat} {E : Nat → Nat → Int} {t : Nat → Int} {wo gc : Nat → Int} (hF : fR E t) (hs : s < 4) (hs2 : (s : Int) < t 2) (hp : (p : Int) < t 0) (hn : n < 4) (hwo : woR t (2 ^ s) n wo) : ∃ E', (∀ b, (b < 356 ∨ 357 < b) → E' b = E b) ∧ am_sem (d + 5) 21 [.ref 355, .int (iI s), .int (iI p), .int (iI n)] am_S0 (dI E) = some (some (.int (iI (ovV (wo p) (cmT t s gc p)))), am_S0, dI E') := by
  have hF0 := hF
  obtain ⟨⟨hR, hD⟩, hw, hqT⟩ := hF
  have hb := hw.1.1
  have h1 : w1T t := hqT.1.2.2.1
  have a0 := hb.2.1
  obtain ⟨g1, g2, hg1, hg2, H1⟩ := c_foretellWithout (d := d) (n := n) hF0 hs hs2 hn
  have d0 := (foD_p hw hqT (2 ^ s) hn).1 p (by omega)
  have cb := (cm_b hb h1 hs).1 p (by omega)
  have wp := hwo p (by omega)
  have e1 := hg1 p hp
  have e2 := hg2 p (by omega)
  rw [cm_g hb gc (by omega)]
  refine ⟨setR (setR E 356 g1) 357 g2, fun b hb => by rw [setR_n (by omega), setR_n (by omega)], mX2_daysAhead rfl rfl ?_⟩
  unfold foV at e1
  unfold ovV
  by_cases c : 150 < foD t (2 ^ s) n p
  · rw [if_pos c] at e1
    have := wp.2 c
    rw [if_neg (by omega)]
    simp (disch := first | omega | simp only [am_ci, am_cr, am_ca]) only [eX2_daysAhead_0, eX2_daysAhead_1, eX2_daysAhead_2, eX2_daysAhead_3, eX2_daysAhead_6, eX2_daysAhead_7, eX2_daysAhead_10, eX2_daysAhead_11, eX2_daysAhead_12, eX2_daysAhead_14, eX2_daysAhead_17, eX2_daysAhead_18, eX2_daysAhead_21, eX2_daysAhead_22, eX2_daysAhead_23, eX2_daysAhead_24, eX2_daysAhead_27, eX2_daysAhead_28, eX2_daysAhead_29, eX2_daysAhead_32, eX2_daysAhead_33, eX2_daysAhead_36, eX2_daysAhead_37, eX2_daysAhead_39, eX2_daysAhead_41, eX2_daysAhead_44, eX2_daysAhead_45, eX2_daysAhead_48, eX2_daysAhead_49, eX2_daysAhead_50, eX2_daysAhead_51, eX2_daysAhead_54, eX2_daysAhead_55, eX2_daysAhead_56, eX2_daysAhead_57, eX2_daysAhead_60, eX2_daysAhead_62, am_bi, Int.reduceEq, Int.reduceLT, Int.reduceLE, Int.reduceToNat, ite_self, Decidable.not_not, not_true_eq_false, not_false_eq_true, ↓reduceIte, am_ci, am_cr, am_ca, am_b0, am_b1, am_ts, am_tn, am_then_some, List.cons_append, List.nil_append, ne_eq, iI_lit, iI_add, iI_sub, iI_mul, iI_neg, iI_lt, iI_le, iI_eq, iI_in, iI_clz, dI_ap, dI_wr, setR_s, wE_R, setR_2, setR_n, setR_o, updI_s, updI_n, updI_2, tl_0, tl_1, tl_2, tl_3, tl_4, tl_5, tl_6, tl_7, tl_8, tl_9, tl_10, tl_11, tl_12, tl_13, tl_14, tl_15, tl_16, tn_3, tn_5, tn_13, tn_21, tn_29, tn_33, tn_37, tn_41, tn_45, tn_49, tn_53, tn_57, tn_61, tn_40, tn_p, tn_0, true_and, and_true, sk_0, sk_1, sk_2, sl_2, sk_3, sl_3, sk_4, sl_4, sk_5, sl_5, sk_6, sl_6, sk_7, sl_7, sk_8, sl_8, sk_9, sl_9, sk_10, sl_10, sk_11, sl_11, sk_12, sl_12, sk_13, sk_14, sl_14, sk_15, sk_40, sk_41, sl_41, sk_330, sl_330, sk_355, sk_356, sl_356, sk_357, sl_357, sk_358, sl_358, sk_359, sl_359, sk_360, sl_360, sk_361, sk_362, sl_362, sk_363, sk_376, sk_377, sl_377, sk_378, sk_379, sl_379, sk_380, sl_380, sk_381, sl_381, sk_382, sl_382, sk_383, sl_383, sk_384, sl_384, sk_385, sl_385, sk_386, sl_386, sk_387, sl_387, sk_388, sl_388, sk_389, sl_389, sk_390, sl_390, sk_391, sl_391, sk_392, sl_392, sk_393, sl_393, sk_394, sl_394, sr_0_0, sr_0_1, sr_0_2, sr_0_3, sr_0_4, sr_0_5, sr_0_6, sr_0_7, sr_0_8, sr_0_9, sr_1_0, sr_1_1, sr_1_2, sr_13_0, sr_15_0, sr_15_2, sr_40_0, sr_355_0, sr_355_1, sr_355_2, sr_355_3, sr_355_4, sr_355_5, sr_361_2, sr_361_5, sr_361_6, sr_363_0, sr_363_1, sr_376_0, sr_376_2, sr_378_0, sr_378_1, sr_378_2, sr_378_4, sr_378_8, sr_378_10, sr_378_11, sr_378_12, sr_378_14, sr_378_20, sr_378_21, sr_378_22, sr_378_23, sr_378_24, sr_378_25, sr_378_26, am_vs, H1, e1, e2]
    all_goals ((repeat' split) <;> first | rfl | trivial | (exfalso; omega))
  · rw [if_neg c] at e1
    rw [wp.1 (by omega)]
    by_cases c2 : cm0 t s p < foD t (2 ^ s) n p
    · rw [if_pos c2]
      simp (disch := first | omega | simp only [am_ci, am_cr, am_ca]) only [eX2_daysAhead_0, eX2_daysAhead_1, eX2_daysAhead_2, eX2_daysAhead_3, eX2_daysAhead_6, eX2_daysAhead_7, eX2_daysAhead_10, eX2_daysAhead_11, eX2_daysAhead_12, eX2_daysAhead_14, eX2_daysAhead_17, eX2_daysAhead_18, eX2_daysAhead_21, eX2_daysAhead_22, eX2_daysAhead_23, eX2_daysAhead_24, eX2_daysAhead_27, eX2_daysAhead_28, eX2_daysAhead_29, eX2_daysAhead_32, eX2_daysAhead_33, eX2_daysAhead_36, eX2_daysAhead_37, eX2_daysAhead_39, eX2_daysAhead_41, eX2_daysAhead_44, eX2_daysAhead_45, eX2_daysAhead_48, eX2_daysAhead_49, eX2_daysAhead_50, eX2_daysAhead_51, eX2_daysAhead_54, eX2_daysAhead_55, eX2_daysAhead_56, eX2_daysAhead_57, eX2_daysAhead_60, eX2_daysAhead_62, am_bi, Int.reduceEq, Int.reduceLT, Int.reduceLE, Int.reduceToNat, ite_self, Decidable.not_not, not_true_eq_false, not_false_eq_true, ↓reduceIte, am_ci, am_cr, am_ca, am_b0, am_b1, am_ts, am_tn, am_then_some, List.cons_append, List.nil_append, ne_eq, iI_lit, iI_add, iI_sub, iI_mul, iI_neg, iI_lt, iI_le, iI_eq, iI_in, iI_clz, dI_ap, dI_wr, setR_s, wE_R, setR_2, setR_n, setR_o, updI_s, updI_n, updI_2, tl_0, tl_1, tl_2, tl_3, tl_4, tl_5, tl_6, tl_7, tl_8, tl_9, tl_10, tl_11, tl_12, tl_13, tl_14, tl_15, tl_16, tn_3, tn_5, tn_13, tn_21, tn_29, tn_33, tn_37, tn_41, tn_45, tn_49, tn_53, tn_57, tn_61, tn_40, tn_p, tn_0, true_and, and_true, sk_0, sk_1, sk_2, sl_2, sk_3, sl_3, sk_4, sl_4, sk_5, sl_5, sk_6, sl_6, sk_7, sl_7, sk_8, sl_8, sk_9, sl_9, sk_10, sl_10, sk_11, sl_11, sk_12, sl_12, sk_13, sk_14, sl_14, sk_15, sk_40, sk_41, sl_41, sk_330, sl_330, sk_355, sk_356, sl_356, sk_357, sl_357, sk_358, sl_358, sk_359, sl_359, sk_360, sl_360, sk_361, sk_362, sl_362, sk_363, sk_376, sk_377, sl_377, sk_378, sk_379, sl_379, sk_380, sl_380, sk_381, sl_381, sk_382, sl_382, sk_383, sl_383, sk_384, sl_384, sk_385, sl_385, sk_386, sl_386, sk_387, sl_387, sk_388, sl_388, sk_389, sl_389, sk_390, sl_390, sk_391, sl_391, sk_392, sl_392, sk_393, sl_393, sk_394, sl_394, sr_0_0, sr_0_1, sr_0_2, sr_0_3, sr_0_4, sr_0_5, sr_0_6, sr_0_7, sr_0_8, sr_0_9, sr_1_0, sr_1_1, sr_1_2, sr_13_0, sr_15_0, sr_15_2, sr_40_0, sr_355_0, sr_355_1, sr_355_2, sr_355_3, sr_355_4, sr_355_5, sr_361_2, sr_361_5, sr_361_6, sr_363_0, sr_363_1, sr_376_0, sr_376_2, sr_378_0, sr_378_1, sr_378_2, sr_378_4, sr_378_8, sr_378_10, sr_378_11, sr_378_12, sr_378_14, sr_378_20, sr_378_21, sr_378_22, sr_378_23, sr_378_24, sr_378_25, sr_378_26, am_vs, H1, e1, e2]
      all_goals ((repeat' split) <;> first | rfl | trivial | (exfalso; omega))
    · rw [if_neg c2]
      simp (disch := first | omega | simp only [am_ci, am_cr, am_ca]) only [eX2_daysAhead_0, eX2_daysAhead_1, eX2_daysAhead_2, eX2_daysAhead_3, eX2_daysAhead_6, eX2_daysAhead_7, eX2_daysAhead_10, eX2_daysAhead_11, eX2_daysAhead_12, eX2_daysAhead_14, eX2_daysAhead_17, eX2_daysAhead_18, eX2_daysAhead_21, eX2_daysAhead_22, eX2_daysAhead_23, eX2_daysAhead_24, eX2_daysAhead_27, eX2_daysAhead_28, eX2_daysAhead_29, eX2_daysAhead_32, eX2_daysAhead_33, eX2_daysAhead_36, eX2_daysAhead_37, eX2_daysAhead_39, eX2_daysAhead_41, eX2_daysAhead_44, eX2_daysAhead_45, eX2_daysAhead_48, eX2_daysAhead_49, eX2_daysAhead_50, eX2_daysAhead_51, eX2_daysAhead_54, eX2_daysAhead_55, eX2_daysAhead_56, eX2_daysAhead_57, eX2_daysAhead_60, eX2_daysAhead_62, am_bi, Int.reduceEq, Int.reduceLT, Int.reduceLE, Int.reduceToNat, ite_self, Decidable.not_not, not_true_eq_false, not_false_eq_true, ↓reduceIte, am_ci, am_cr, am_ca, am_b0, am_b1, am_ts, am_tn, am_then_some, List.cons_append, List.nil_append, ne_eq, iI_lit, iI_add, iI_sub, iI_mul, iI_neg, iI_lt, iI_le, iI_eq, iI_in, iI_clz, dI_ap, dI_wr, setR_s, wE_R, setR_2, setR_n, setR_o, updI_s, updI_n, updI_2, tl_0, tl_1, tl_2, tl_3, tl_4, tl_5, tl_6, tl_7, tl_8, tl_9, tl_10, tl_11, tl_12, tl_13, tl_14, tl_15, tl_16, tn_3, tn_5, tn_13, tn_21, tn_29, tn_33, tn_37, tn_41, tn_45, tn_49, tn_53, tn_57, tn_61, tn_40, tn_p, tn_0, true_and, and_true, sk_0, sk_1, sk_2, sl_2, sk_3, sl_3, sk_4, sl_4, sk_5, sl_5, sk_6, sl_6, sk_7, sl_7, sk_8, sl_8, sk_9, sl_9, sk_10, sl_10, sk_11, sl_11, sk_12, sl_12, sk_13, sk_14, sl_14, sk_15, sk_40, sk_41, sl_41, sk_330, sl_330, sk_355, sk_356, sl_356, sk_357, sl_357, sk_358, sl_358, sk_359, sl_359, sk_360, sl_360, sk_361, sk_362, sl_362, sk_363, sk_376, sk_377, sl_377, sk_378, sk_379, sl_379, sk_380, sl_380, sk_381, sl_381, sk_382, sl_382, sk_383, sl_383, sk_384, sl_384, sk_385, sl_385, sk_386, sl_386, sk_387, sl_387, sk_388, sl_388, sk_389, sl_389, sk_390, sl_390, sk_391, sl_391, sk_392, sl_392, sk_393, sl_393, sk_394, sl_394, sr_0_0, sr_0_1, sr_0_2, sr_0_3, sr_0_4, sr_0_5, sr_0_6, sr_0_7, sr_0_8, sr_0_9, sr_1_0, sr_1_1, sr_1_2, sr_13_0, sr_15_0, sr_15_2, sr_40_0, sr_355_0, sr_355_1, sr_355_2, sr_355_3, sr_355_4, sr_355_5, sr_361_2, sr_361_5, sr_361_6, sr_363_0, sr_363_1, sr_376_0, sr_376_2, sr_378_0, sr_378_1, sr_378_2, sr_378_4, sr_378_8, sr_378_10, sr_378_11, sr_378_12, sr_378_14, sr_378_20, sr_378_21, sr_378_22, sr_378_23, sr_378_24, sr_378_25, sr_378_26, am_vs, H1, e1, e2]
      all_goals ((repeat' split) <;> first | rfl | trivial | (exfalso; omega))
