/-! ===== the reference: where a ship can be, what it can bring ===== -/
theorem gB_pi {t dl g : Nat → Int} (h : gB g) (hw : wyT t dl) : ∀ n, gB (piT t dl g n)
  | 0 => h
  | n + 1 => by
    rw [piT_n]
    exact gB_pa (gB_pi h hw n) hw.2.1 hw.2.2.1 _ (by have := hw.1; omega)
/-- every way of the league is a day long at least -/
def w1T (t : Nat → Int) : Prop := ∀ w : Nat, (w : Int) < t 1 → 1 ≤ t (21 + w)
theorem wy_tk {t : Nat → Int} (hb : bT t) (h1 : w1T t) (s : Nat) : wyT t (tkT t s) := by
  refine ⟨hb.2.2.1, fun w hw => ⟨(hb.2.2.2.2.2.2.1 w hw).1, (hb.2.2.2.2.2.2.1 w hw).2.1⟩, fun w hw => (tkT_b (hb.2.2.2.2.2.2.1 w hw).2.2).1, fun w hw => ?_⟩
  have := h1 w hw
  unfold tkT
  (repeat' split) <;> omega
theorem wy_sg {t : Nat → Int} (hb : bT t) (h1 : w1T t) : wyT t (fun w => 3 * t (21 + w)) := by
  refine ⟨hb.2.2.1, fun w hw => ⟨(hb.2.2.2.2.2.2.1 w hw).1, (hb.2.2.2.2.2.2.1 w hw).2.1⟩, fun w hw => ?_, fun w hw => ?_⟩
  · have := (hb.2.2.2.2.2.2.1 w hw).2.2
    show 0 ≤ 3 * t (21 + w)
    omega
  · have := h1 w hw
    show 1 ≤ 3 * t (21 + w)
    omega
theorem r_sinks' {d s q : Nat} {E : Nat → Nat → Int} (hq : q = 391 ∨ q = 392) (hb : bT (E 383)) (h1 : w1T (E 383)) (hs : s < 4) (hg : gB (E q)) : am_sem (d + 2) 184 [.ref 378, .int (iI s), .ref q] am_S0 (dI E) = some (none, am_S0, dI (setR E q (piT (E 383) (tkT (E 383) s) (E q) 5))) := by
  obtain ⟨n, h2, h3⟩ := r_sinks (d := d) hq hb hs hg
  rw [piT_u (wy_tk hb h1 s) hg h3] at h2
  exact h2
def bgT (t : Nat → Int) (s : Nat) : Int := if 0 < t (37 + s) then t (37 + s) else t 3
def lcT (b : Nat) (z : Int) (g : Nat → Int) (k : Nat) : Nat → Int := fun p => if p < k then (if p = b then z else 1000000) else g p
theorem lcT_s (b : Nat) (z : Int) (g : Nat → Int) (k : Nat) : updI (lcT b z g k) k (if k = b then z else 1000000) = lcT b z g (k + 1) := by
  funext x
  unfold updI lcT
  by_cases h : x = k
  · subst h; rw [if_pos rfl, if_pos (show x < x + 1 by omega)]
  · rw [if_neg h]
    by_cases h2 : x < k
    · rw [if_pos h2, if_pos (show x < k + 1 by omega)]
    · rw [if_neg h2, if_neg (show ¬ x < k + 1 by omega)]
theorem gB_lc {b : Nat} {z : Int} {g : Nat → Int} (hz : 0 ≤ z ∧ z ≤ 2000000) : gB (lcT b z g 6) := by
  intro p hp
  unfold lcT
  rw [if_pos hp]
  split <;> omega
/-- the day on which a ship can be in a port -/
def cmT (t : Nat → Int) (s : Nat) (g : Nat → Int) : Nat → Int := piT t (tkT t s) (lcT (t (33 + s)).toNat (bgT t s) g 6) 5
theorem bgT_b {t : Nat → Int} (hb : bT t) (s : Nat) : 0 ≤ bgT t s ∧ bgT t s ≤ 100000 := by
  have a3 := hb.2.2.2.2.1
  have c := hb.1 (37 + s)
  unfold bgT
  split <;> omega
theorem gB_cm {t : Nat → Int} (hb : bT t) (h1 : w1T t) (s : Nat) (g : Nat → Int) : gB (cmT t s g) :=
  gB_pi (gB_lc (by have := bgT_b hb s; omega)) (wy_tk hb h1 s) 5
theorem r_layComes {d s : Nat} {E : Nat → Nat → Int} (hb : bT (E 383)) (h1 : w1T (E 383)) (hs : s < 4) : am_sem (d + 3) 182 [.ref 378, .int (iI s)] am_S0 (dI E) = some (none, am_S0, dI (setR E 391 (cmT (E 383) s (E 391)))) := by
  refine mX10_layComes rfl rfl ?_
  simp (disch := first | omega | simp only [am_ci, am_cr, am_ca]) only [eX10_layComes_0, eX10_layComes_1, am_bi, Int.reduceEq, Int.reduceLT, Int.reduceLE, Int.reduceToNat, ite_self, Decidable.not_not, not_true_eq_false, not_false_eq_true, ↓reduceIte, am_ci, am_cr, am_ca, am_b0, am_b1, am_ts, am_tn, am_then_some, List.cons_append, List.nil_append, ne_eq, iI_lit, iI_add, iI_sub, iI_mul, iI_neg, iI_lt, iI_le, iI_eq, iI_in, iI_clz, dI_ap, dI_wr, setR_s, wE_R, setR_2, setR_n, setR_o, updI_s, updI_n, updI_2, tl_0, tl_1, tl_2, tl_3, tl_4, tl_5, tl_6, tl_7, tl_8, tl_9, tl_10, tl_11, tl_12, tl_13, tl_14, tl_15, tl_16, tn_3, tn_5, tn_13, tn_21, tn_29, tn_33, tn_37, tn_41, tn_45, tn_49, tn_53, tn_57, tn_61, tn_40, tn_p, tn_0, true_and, and_true, sk_0, sk_1, sk_2, sl_2, sk_3, sl_3, sk_4, sl_4, sk_5, sl_5, sk_6, sl_6, sk_7, sl_7, sk_8, sl_8, sk_9, sl_9, sk_10, sl_10, sk_11, sl_11, sk_12, sl_12, sk_13, sk_14, sl_14, sk_15, sk_40, sk_41, sl_41, sk_330, sl_330, sk_355, sk_356, sl_356, sk_357, sl_357, sk_358, sl_358, sk_359, sl_359, sk_360, sl_360, sk_361, sk_362, sl_362, sk_363, sk_376, sk_377, sl_377, sk_378, sk_379, sl_379, sk_380, sl_380, sk_381, sl_381, sk_382, sl_382, sk_383, sl_383, sk_384, sl_384, sk_385, sl_385, sk_386, sl_386, sk_387, sl_387, sk_388, sl_388, sk_389, sl_389, sk_390, sl_390, sk_391, sl_391, sk_392, sl_392, sk_393, sl_393, sk_394, sl_394, sr_0_0, sr_0_1, sr_0_2, sr_0_3, sr_0_4, sr_0_5, sr_0_6, sr_0_7, sr_0_8, sr_0_9, sr_1_0, sr_1_1, sr_1_2, sr_13_0, sr_15_0, sr_15_2, sr_40_0, sr_355_0, sr_355_1, sr_355_2, sr_355_3, sr_355_4, sr_355_5, sr_361_2, sr_361_5, sr_361_6, sr_363_0, sr_363_1, sr_376_0, sr_376_2, sr_378_0, sr_378_1, sr_378_2, sr_378_4, sr_378_8, sr_378_10, sr_378_11, sr_378_12, sr_378_14, sr_378_20, sr_378_21, sr_378_22, sr_378_23, sr_378_24, sr_378_25, sr_378_26, am_vs]
  have p33 := (hb.2.2.2.2.2.2.2.1 s hs).2.1
  have bB := bgT_b hb s
  obtain ⟨b, hb2⟩ := Int.eq_ofNat_of_zero_le p33.1
  unfold cmT
  rw [hb2, show ((b : Int)).toNat = b from rfl]
  have h0 := am_loop (P := fun k => am_ev (am_sem (d + 2)) 10 cX10_layComes 2 [.ref 378, .int (iI s), .int (iI k)] [] am_S0 (dI (setR E 391 (lcT b (bgT (E 383) s) (E 391) k))) (none, am_S0, dI (setR E 391 (piT (E 383) (tkT (E 383) s) (lcT b (bgT (E 383) s) (E 391) 6) 5)))) (n := 6) ?_ ?_ (k := 0) (by omega)
  · have e : lcT b (bgT (E 383) s) (E 391) 0 = E 391 := by funext x; unfold lcT; rw [if_neg (by omega)]
    rw [e, setR_e] at h0
    exact h0
  · intro k hk ih
    have H1 := r_beginOf (d := d + 1) (s := s) (E := setR E 391 (lcT b (bgT (E 383) s) (E 391) k)) hs (by rw [setR_n (by omega)]; exact hb.1)
    rw [setR_n (by omega)] at H1
    rw [show (if 0 < E 383 (37 + s) then E 383 (37 + s) else E 383 3) = bgT (E 383) s from rfl] at H1
    rw [← lcT_s] at ih
    rw [eX10_layComes_2]
    by_cases e : k = b
    · rw [if_pos e] at ih
      simp (disch := first | omega | simp only [am_ci, am_cr, am_ca]) only [eX10_layComes_3, eX10_layComes_5, eX10_layComes_8, eX10_layComes_9, eX10_layComes_12, eX10_layComes_13, eX10_layComes_14, eX10_layComes_15, eX10_layComes_18, eX10_layComes_20, eX10_layComes_21, eX10_layComes_22, eX10_layComes_23, eX10_layComes_26, eX10_layComes_27, eX10_layComes_28, eX10_layComes_31, eX10_layComes_34, eX10_layComes_36, eX10_layComes_37, eX10_layComes_40, am_bi, Int.reduceEq, Int.reduceLT, Int.reduceLE, Int.reduceToNat, ite_self, Decidable.not_not, not_true_eq_false, not_false_eq_true, ↓reduceIte, am_ci, am_cr, am_ca, am_b0, am_b1, am_ts, am_tn, am_then_some, List.cons_append, List.nil_append, ne_eq, iI_lit, iI_add, iI_sub, iI_mul, iI_neg, iI_lt, iI_le, iI_eq, iI_in, iI_clz, dI_ap, dI_wr, setR_s, wE_R, setR_2, setR_n, setR_o, updI_s, updI_n, updI_2, tl_0, tl_1, tl_2, tl_3, tl_4, tl_5, tl_6, tl_7, tl_8, tl_9, tl_10, tl_11, tl_12, tl_13, tl_14, tl_15, tl_16, tn_3, tn_5, tn_13, tn_21, tn_29, tn_33, tn_37, tn_41, tn_45, tn_49, tn_53, tn_57, tn_61, tn_40, tn_p, tn_0, true_and, and_true, sk_0, sk_1, sk_2, sl_2, sk_3, sl_3, sk_4, sl_4, sk_5, sl_5, sk_6, sl_6, sk_7, sl_7, sk_8, sl_8, sk_9, sl_9, sk_10, sl_10, sk_11, sl_11, sk_12, sl_12, sk_13, sk_14, sl_14, sk_15, sk_40, sk_41, sl_41, sk_330, sl_330, sk_355, sk_356, sl_356, sk_357, sl_357, sk_358, sl_358, sk_359, sl_359, sk_360, sl_360, sk_361, sk_362, sl_362, sk_363, sk_376, sk_377, sl_377, sk_378, sk_379, sl_379, sk_380, sl_380, sk_381, sl_381, sk_382, sl_382, sk_383, sl_383, sk_384, sl_384, sk_385, sl_385, sk_386, sl_386, sk_387, sl_387, sk_388, sl_388, sk_389, sl_389, sk_390, sl_390, sk_391, sl_391, sk_392, sl_392, sk_393, sl_393, sk_394, sl_394, sr_0_0, sr_0_1, sr_0_2, sr_0_3, sr_0_4, sr_0_5, sr_0_6, sr_0_7, sr_0_8, sr_0_9, sr_1_0, sr_1_1, sr_1_2, sr_13_0, sr_15_0, sr_15_2, sr_40_0, sr_355_0, sr_355_1, sr_355_2, sr_355_3, sr_355_4, sr_355_5, sr_361_2, sr_361_5, sr_361_6, sr_363_0, sr_363_1, sr_376_0, sr_376_2, sr_378_0, sr_378_1, sr_378_2, sr_378_4, sr_378_8, sr_378_10, sr_378_11, sr_378_12, sr_378_14, sr_378_20, sr_378_21, sr_378_22, sr_378_23, sr_378_24, sr_378_25, sr_378_26, am_vs, H1, hb2]
      repeat (first | rw [if_pos (by omega)] | rw [if_neg (by omega)])
      exact ih
    · rw [if_neg e] at ih
      simp (disch := first | omega | simp only [am_ci, am_cr, am_ca]) only [eX10_layComes_3, eX10_layComes_5, eX10_layComes_8, eX10_layComes_9, eX10_layComes_12, eX10_layComes_13, eX10_layComes_14, eX10_layComes_15, eX10_layComes_18, eX10_layComes_20, eX10_layComes_21, eX10_layComes_22, eX10_layComes_23, eX10_layComes_26, eX10_layComes_27, eX10_layComes_28, eX10_layComes_31, eX10_layComes_34, eX10_layComes_36, eX10_layComes_37, eX10_layComes_40, am_bi, Int.reduceEq, Int.reduceLT, Int.reduceLE, Int.reduceToNat, ite_self, Decidable.not_not, not_true_eq_false, not_false_eq_true, ↓reduceIte, am_ci, am_cr, am_ca, am_b0, am_b1, am_ts, am_tn, am_then_some, List.cons_append, List.nil_append, ne_eq, iI_lit, iI_add, iI_sub, iI_mul, iI_neg, iI_lt, iI_le, iI_eq, iI_in, iI_clz, dI_ap, dI_wr, setR_s, wE_R, setR_2, setR_n, setR_o, updI_s, updI_n, updI_2, tl_0, tl_1, tl_2, tl_3, tl_4, tl_5, tl_6, tl_7, tl_8, tl_9, tl_10, tl_11, tl_12, tl_13, tl_14, tl_15, tl_16, tn_3, tn_5, tn_13, tn_21, tn_29, tn_33, tn_37, tn_41, tn_45, tn_49, tn_53, tn_57, tn_61, tn_40, tn_p, tn_0, true_and, and_true, sk_0, sk_1, sk_2, sl_2, sk_3, sl_3, sk_4, sl_4, sk_5, sl_5, sk_6, sl_6, sk_7, sl_7, sk_8, sl_8, sk_9, sl_9, sk_10, sl_10, sk_11, sl_11, sk_12, sl_12, sk_13, sk_14, sl_14, sk_15, sk_40, sk_41, sl_41, sk_330, sl_330, sk_355, sk_356, sl_356, sk_357, sl_357, sk_358, sl_358, sk_359, sl_359, sk_360, sl_360, sk_361, sk_362, sl_362, sk_363, sk_376, sk_377, sl_377, sk_378, sk_379, sl_379, sk_380, sl_380, sk_381, sl_381, sk_382, sl_382, sk_383, sl_383, sk_384, sl_384, sk_385, sl_385, sk_386, sl_386, sk_387, sl_387, sk_388, sl_388, sk_389, sl_389, sk_390, sl_390, sk_391, sl_391, sk_392, sl_392, sk_393, sl_393, sk_394, sl_394, sr_0_0, sr_0_1, sr_0_2, sr_0_3, sr_0_4, sr_0_5, sr_0_6, sr_0_7, sr_0_8, sr_0_9, sr_1_0, sr_1_1, sr_1_2, sr_13_0, sr_15_0, sr_15_2, sr_40_0, sr_355_0, sr_355_1, sr_355_2, sr_355_3, sr_355_4, sr_355_5, sr_361_2, sr_361_5, sr_361_6, sr_363_0, sr_363_1, sr_376_0, sr_376_2, sr_378_0, sr_378_1, sr_378_2, sr_378_4, sr_378_8, sr_378_10, sr_378_11, sr_378_12, sr_378_14, sr_378_20, sr_378_21, sr_378_22, sr_378_23, sr_378_24, sr_378_25, sr_378_26, am_vs, H1, hb2]
      repeat (first | rw [if_pos (by omega)] | rw [if_neg (by omega)])
      exact ih
  · have H2 := r_sinks' (d := d) (q := 391) (E := setR E 391 (lcT b (bgT (E 383) s) (E 391) 6)) (s := s) (Or.inl rfl) (by rw [setR_n (by omega)]; exact hb) (by rw [setR_n (by omega)]; exact h1) hs (by rw [setR_s]; exact gB_lc (by omega))
    rw [setR_n (by omega), setR_s, setR_2] at H2
    rw [eX10_layComes_2]
    simp (disch := first | omega | simp only [am_ci, am_cr, am_ca]) only [eX10_layComes_3, eX10_layComes_5, eX10_layComes_8, eX10_layComes_9, eX10_layComes_12, eX10_layComes_13, eX10_layComes_14, eX10_layComes_15, eX10_layComes_18, eX10_layComes_20, eX10_layComes_21, eX10_layComes_22, eX10_layComes_23, eX10_layComes_26, eX10_layComes_27, eX10_layComes_28, eX10_layComes_31, eX10_layComes_34, eX10_layComes_36, eX10_layComes_37, eX10_layComes_40, eX10_layComes_43, eX10_layComes_44, eX10_layComes_45, eX10_layComes_46, eX10_layComes_49, eX10_layComes_52, am_bi, Int.reduceEq, Int.reduceLT, Int.reduceLE, Int.reduceToNat, ite_self, Decidable.not_not, not_true_eq_false, not_false_eq_true, ↓reduceIte, am_ci, am_cr, am_ca, am_b0, am_b1, am_ts, am_tn, am_then_some, List.cons_append, List.nil_append, ne_eq, iI_lit, iI_add, iI_sub, iI_mul, iI_neg, iI_lt, iI_le, iI_eq, iI_in, iI_clz, dI_ap, dI_wr, setR_s, wE_R, setR_2, setR_n, setR_o, updI_s, updI_n, updI_2, tl_0, tl_1, tl_2, tl_3, tl_4, tl_5, tl_6, tl_7, tl_8, tl_9, tl_10, tl_11, tl_12, tl_13, tl_14, tl_15, tl_16, tn_3, tn_5, tn_13, tn_21, tn_29, tn_33, tn_37, tn_41, tn_45, tn_49, tn_53, tn_57, tn_61, tn_40, tn_p, tn_0, true_and, and_true, sk_0, sk_1, sk_2, sl_2, sk_3, sl_3, sk_4, sl_4, sk_5, sl_5, sk_6, sl_6, sk_7, sl_7, sk_8, sl_8, sk_9, sl_9, sk_10, sl_10, sk_11, sl_11, sk_12, sl_12, sk_13, sk_14, sl_14, sk_15, sk_40, sk_41, sl_41, sk_330, sl_330, sk_355, sk_356, sl_356, sk_357, sl_357, sk_358, sl_358, sk_359, sl_359, sk_360, sl_360, sk_361, sk_362, sl_362, sk_363, sk_376, sk_377, sl_377, sk_378, sk_379, sl_379, sk_380, sl_380, sk_381, sl_381, sk_382, sl_382, sk_383, sl_383, sk_384, sl_384, sk_385, sl_385, sk_386, sl_386, sk_387, sl_387, sk_388, sl_388, sk_389, sl_389, sk_390, sl_390, sk_391, sl_391, sk_392, sl_392, sk_393, sl_393, sk_394, sl_394, sr_0_0, sr_0_1, sr_0_2, sr_0_3, sr_0_4, sr_0_5, sr_0_6, sr_0_7, sr_0_8, sr_0_9, sr_1_0, sr_1_1, sr_1_2, sr_13_0, sr_15_0, sr_15_2, sr_40_0, sr_355_0, sr_355_1, sr_355_2, sr_355_3, sr_355_4, sr_355_5, sr_361_2, sr_361_5, sr_361_6, sr_363_0, sr_363_1, sr_376_0, sr_376_2, sr_378_0, sr_378_1, sr_378_2, sr_378_4, sr_378_8, sr_378_10, sr_378_11, sr_378_12, sr_378_14, sr_378_20, sr_378_21, sr_378_22, sr_378_23, sr_378_24, sr_378_25, sr_378_26, am_vs, H2]
    all_goals ((repeat' split) <;> first | rfl | trivial | (exfalso; omega))
/-- the day on which a ship can know a news in a port, before it sails on -/
def kwV (t : Nat → Int) (s n : Nat) (wo cm : Nat → Int) (p : Nat) : Int := if (t (45 + s)).toNat / 2 ^ n % 2 = 1 then cm p else if wo p < 0 ∨ t (29 + s) = 5 then 1000000 else if cm p < wo p then wo p else cm p
def kwT (t : Nat → Int) (s n : Nat) (wo cm g : Nat → Int) (k : Nat) : Nat → Int := fun p => if p < k then kwV t s n wo cm p else g p
theorem kwT_s (t : Nat → Int) (s n : Nat) (wo cm g : Nat → Int) (k : Nat) : updI (kwT t s n wo cm g k) k (kwV t s n wo cm k) = kwT t s n wo cm g (k + 1) := by
  funext x
  unfold updI kwT
  by_cases h : x = k
  · subst h; rw [if_pos rfl, if_pos (by omega)]
  · rw [if_neg h]
    by_cases h2 : x < k
    · rw [if_pos h2, if_pos (by omega)]
    · rw [if_neg h2, if_neg (by omega)]
theorem kwV_b {t : Nat → Int} {s n : Nat} {wo cm : Nat → Int} {p : Nat} (hw : wo p ≤ 100000) (hc : 0 ≤ cm p ∧ cm p ≤ 2000000) : 0 ≤ kwV t s n wo cm p ∧ kwV t s n wo cm p ≤ 2000000 := by
  unfold kwV
  (repeat' split) <;> omega
def brT (t : Nat → Int) (s n : Nat) (wo cm g : Nat → Int) : Nat → Int := piT t (tkT t s) (kwT t s n wo cm g 6) 5
theorem gB_kw {t : Nat → Int} {s n : Nat} {wo cm g : Nat → Int} (hw : ∀ p, p < 6 → wo p ≤ 100000) (hc : gB cm) : gB (kwT t s n wo cm g 6) := by
  intro p hp
  unfold kwT
  rw [if_pos hp]
  exact kwV_b (hw p hp) (hc p hp)
theorem r_layBrings {d s n : Nat} {E : Nat → Nat → Int} (hb : bT (E 383)) (h1 : w1T (E 383)) (hs : s < 4) (hn : n < 4) (hwo : ∀ p, p < 6 → -1 ≤ E 390 p ∧ E 390 p ≤ 100000) : am_sem (d + 4) 181 [.ref 378, .int (iI s), .int (iI n)] am_S0 (dI E) = some (none, am_S0, dI (setR (setR E 391 (cmT (E 383) s (E 391))) 392 (brT (E 383) s n (E 390) (cmT (E 383) s (E 391)) (E 392)))) := by
  refine mX10_layBrings rfl rfl ?_
  have H1 := r_layComes (d := d) hb h1 hs
  have hC := gB_cm hb h1 s (E 391)
  have p45 := (hb.2.2.2.2.2.2.2.1 s hs).2.2.2
  have p29 := (hb.2.2.2.2.2.2.2.1 s hs).1
  have bm : (E 383 (45 + s)).toNat / 2 ^ n % 2 < 2 := Nat.mod_lt _ (by omega)
  unfold brT
  generalize cmT (E 383) s (E 391) = C at *
  have L : ∀ (kn gh : Nat), (kn = if (E 383 (45 + s)).toNat / 2 ^ n % 2 = 1 then 1 else 0) → (gh = if E 383 (29 + s) = 5 then 1 else 0) → ∀ v6, am_ev (am_sem (d + 3)) 10 cX10_layBrings 51 [.ref 378, .int (iI s), .int (iI n), .int (iI kn), .int (iI gh), .int (iI 0), v6] [] am_S0 (dI (setR E 391 C)) (none, am_S0, dI (setR (setR E 391 C) 392 (piT (E 383) (tkT (E 383) s) (kwT (E 383) s n (E 390) C (E 392) 6) 5))) := by
    intro kn gh hkn hgh
    have hk1 : kn < 2 := by rw [hkn]; split <;> omega
    have hg1 : gh < 2 := by rw [hgh]; split <;> omega
    have h0 := am_loop (P := fun k => ∀ v6, am_ev (am_sem (d + 3)) 10 cX10_layBrings 51 [.ref 378, .int (iI s), .int (iI n), .int (iI kn), .int (iI gh), .int (iI k), v6] [] am_S0 (dI (setR (setR E 391 C) 392 (kwT (E 383) s n (E 390) C (E 392) k))) (none, am_S0, dI (setR (setR E 391 C) 392 (piT (E 383) (tkT (E 383) s) (kwT (E 383) s n (E 390) C (E 392) 6) 5)))) (n := 6) ?_ ?_ (k := 0) (by omega)
    · intro v6
      have e : kwT (E 383) s n (E 390) C (E 392) 0 = setR E 391 C 392 := by rw [setR_n (by omega)]; funext x; unfold kwT; rw [if_neg (by omega)]
      have h2 := h0 v6
      rw [e, setR_e] at h2
      exact h2
    · intro k hk ih v6
      have bw := hwo k hk
      have bc := hC k hk
      rw [← kwT_s] at ih
      unfold kwV at ih
      rw [eX10_layBrings_51]
      simp (disch := first | omega | simp only [am_ci, am_cr, am_ca]) only [eX10_layBrings_53, eX10_layBrings_55, eX10_layBrings_58, eX10_layBrings_59, eX10_layBrings_62, eX10_layBrings_64, eX10_layBrings_65, eX10_layBrings_68, eX10_layBrings_70, eX10_layBrings_73, eX10_layBrings_75, eX10_layBrings_78, eX10_layBrings_79, eX10_layBrings_82, eX10_layBrings_84, eX10_layBrings_85, eX10_layBrings_86, eX10_layBrings_89, eX10_layBrings_91, eX10_layBrings_92, eX10_layBrings_95, eX10_layBrings_96, eX10_layBrings_99, eX10_layBrings_101, eX10_layBrings_102, eX10_layBrings_105, eX10_layBrings_106, eX10_layBrings_109, eX10_layBrings_111, eX10_layBrings_112, eX10_layBrings_114, eX10_layBrings_115, eX10_layBrings_118, eX10_layBrings_120, eX10_layBrings_121, eX10_layBrings_124, eX10_layBrings_125, eX10_layBrings_128, eX10_layBrings_130, eX10_layBrings_131, eX10_layBrings_134, eX10_layBrings_136, eX10_layBrings_137, eX10_layBrings_140, am_bi, Int.reduceEq, Int.reduceLT, Int.reduceLE, Int.reduceToNat, ite_self, Decidable.not_not, not_true_eq_false, not_false_eq_true, ↓reduceIte, am_ci, am_cr, am_ca, am_b0, am_b1, am_ts, am_tn, am_then_some, List.cons_append, List.nil_append, ne_eq, iI_lit, iI_add, iI_sub, iI_mul, iI_neg, iI_lt, iI_le, iI_eq, iI_in, iI_clz, dI_ap, dI_wr, setR_s, wE_R, setR_2, setR_n, setR_o, updI_s, updI_n, updI_2, tl_0, tl_1, tl_2, tl_3, tl_4, tl_5, tl_6, tl_7, tl_8, tl_9, tl_10, tl_11, tl_12, tl_13, tl_14, tl_15, tl_16, tn_3, tn_5, tn_13, tn_21, tn_29, tn_33, tn_37, tn_41, tn_45, tn_49, tn_53, tn_57, tn_61, tn_40, tn_p, tn_0, true_and, and_true, sk_0, sk_1, sk_2, sl_2, sk_3, sl_3, sk_4, sl_4, sk_5, sl_5, sk_6, sl_6, sk_7, sl_7, sk_8, sl_8, sk_9, sl_9, sk_10, sl_10, sk_11, sl_11, sk_12, sl_12, sk_13, sk_14, sl_14, sk_15, sk_40, sk_41, sl_41, sk_330, sl_330, sk_355, sk_356, sl_356, sk_357, sl_357, sk_358, sl_358, sk_359, sl_359, sk_360, sl_360, sk_361, sk_362, sl_362, sk_363, sk_376, sk_377, sl_377, sk_378, sk_379, sl_379, sk_380, sl_380, sk_381, sl_381, sk_382, sl_382, sk_383, sl_383, sk_384, sl_384, sk_385, sl_385, sk_386, sl_386, sk_387, sl_387, sk_388, sl_388, sk_389, sl_389, sk_390, sl_390, sk_391, sl_391, sk_392, sl_392, sk_393, sl_393, sk_394, sl_394, sr_0_0, sr_0_1, sr_0_2, sr_0_3, sr_0_4, sr_0_5, sr_0_6, sr_0_7, sr_0_8, sr_0_9, sr_1_0, sr_1_1, sr_1_2, sr_13_0, sr_15_0, sr_15_2, sr_40_0, sr_355_0, sr_355_1, sr_355_2, sr_355_3, sr_355_4, sr_355_5, sr_361_2, sr_361_5, sr_361_6, sr_363_0, sr_363_1, sr_376_0, sr_376_2, sr_378_0, sr_378_1, sr_378_2, sr_378_4, sr_378_8, sr_378_10, sr_378_11, sr_378_12, sr_378_14, sr_378_20, sr_378_21, sr_378_22, sr_378_23, sr_378_24, sr_378_25, sr_378_26, am_vs]
      rw [if_neg (by omega)]
      by_cases c1 : (E 383 (45 + s)).toNat / 2 ^ n % 2 = 1
      · rw [if_pos c1] at hkn ih
        subst hkn
        by_cases c3 : E 383 (29 + s) = 5
        · rw [if_pos c3] at hgh; subst hgh
          (repeat' split) <;> first | exact ih _ | (exfalso; omega)
        · rw [if_neg c3] at hgh; subst hgh
          (repeat' split) <;> first | exact ih _ | (exfalso; omega)
      · rw [if_neg c1] at hkn ih
        subst hkn
        by_cases c3 : E 383 (29 + s) = 5
        · rw [if_pos c3] at hgh; rw [if_pos (Or.inr c3)] at ih; subst hgh
          (repeat' split) <;> first | exact ih _ | (exfalso; omega)
        · rw [if_neg c3] at hgh; subst hgh
          by_cases c2 : E 390 k < 0
          · rw [if_pos (Or.inl c2)] at ih
            (repeat' split) <;> first | exact ih _ | (exfalso; omega)
          · rw [if_neg (by omega)] at ih
            by_cases c4 : C k < E 390 k
            · rw [if_pos c4] at ih
              (repeat' split) <;> first | exact ih _ | (exfalso; omega)
            · rw [if_neg c4] at ih
              (repeat' split) <;> first | exact ih _ | (exfalso; omega)
    · intro v6
      have H2 := r_sinks' (d := d + 1) (q := 392) (E := setR (setR E 391 C) 392 (kwT (E 383) s n (E 390) C (E 392) 6)) (s := s) (Or.inr rfl) (by rw [setR_n (by omega), setR_n (by omega)]; exact hb) (by rw [setR_n (by omega), setR_n (by omega)]; exact h1) hs (by rw [setR_s]; exact gB_kw (fun p hp => (hwo p hp).2) hC)
      rw [setR_n (by omega), setR_n (by omega), setR_s, setR_2] at H2
      rw [eX10_layBrings_51]
      simp (disch := first | omega | simp only [am_ci, am_cr, am_ca]) only [eX10_layBrings_53, eX10_layBrings_55, eX10_layBrings_58, eX10_layBrings_59, eX10_layBrings_62, eX10_layBrings_64, eX10_layBrings_65, eX10_layBrings_68, eX10_layBrings_70, eX10_layBrings_73, eX10_layBrings_75, eX10_layBrings_78, eX10_layBrings_79, eX10_layBrings_82, eX10_layBrings_84, eX10_layBrings_85, eX10_layBrings_86, eX10_layBrings_89, eX10_layBrings_91, eX10_layBrings_92, eX10_layBrings_95, eX10_layBrings_96, eX10_layBrings_99, eX10_layBrings_101, eX10_layBrings_102, eX10_layBrings_105, eX10_layBrings_106, eX10_layBrings_109, eX10_layBrings_111, eX10_layBrings_112, eX10_layBrings_114, eX10_layBrings_115, eX10_layBrings_118, eX10_layBrings_120, eX10_layBrings_121, eX10_layBrings_124, eX10_layBrings_125, eX10_layBrings_128, eX10_layBrings_130, eX10_layBrings_131, eX10_layBrings_134, eX10_layBrings_136, eX10_layBrings_137, eX10_layBrings_140, eX10_layBrings_143, eX10_layBrings_144, eX10_layBrings_145, eX10_layBrings_146, eX10_layBrings_149, eX10_layBrings_152, am_bi, Int.reduceEq, Int.reduceLT, Int.reduceLE, Int.reduceToNat, ite_self, Decidable.not_not, not_true_eq_false, not_false_eq_true, ↓reduceIte, am_ci, am_cr, am_ca, am_b0, am_b1, am_ts, am_tn, am_then_some, List.cons_append, List.nil_append, ne_eq, iI_lit, iI_add, iI_sub, iI_mul, iI_neg, iI_lt, iI_le, iI_eq, iI_in, iI_clz, dI_ap, dI_wr, setR_s, wE_R, setR_2, setR_n, setR_o, updI_s, updI_n, updI_2, tl_0, tl_1, tl_2, tl_3, tl_4, tl_5, tl_6, tl_7, tl_8, tl_9, tl_10, tl_11, tl_12, tl_13, tl_14, tl_15, tl_16, tn_3, tn_5, tn_13, tn_21, tn_29, tn_33, tn_37, tn_41, tn_45, tn_49, tn_53, tn_57, tn_61, tn_40, tn_p, tn_0, true_and, and_true, sk_0, sk_1, sk_2, sl_2, sk_3, sl_3, sk_4, sl_4, sk_5, sl_5, sk_6, sl_6, sk_7, sl_7, sk_8, sl_8, sk_9, sl_9, sk_10, sl_10, sk_11, sl_11, sk_12, sl_12, sk_13, sk_14, sl_14, sk_15, sk_40, sk_41, sl_41, sk_330, sl_330, sk_355, sk_356, sl_356, sk_357, sl_357, sk_358, sl_358, sk_359, sl_359, sk_360, sl_360, sk_361, sk_362, sl_362, sk_363, sk_376, sk_377, sl_377, sk_378, sk_379, sl_379, sk_380, sl_380, sk_381, sl_381, sk_382, sl_382, sk_383, sl_383, sk_384, sl_384, sk_385, sl_385, sk_386, sl_386, sk_387, sl_387, sk_388, sl_388, sk_389, sl_389, sk_390, sl_390, sk_391, sl_391, sk_392, sl_392, sk_393, sl_393, sk_394, sl_394, sr_0_0, sr_0_1, sr_0_2, sr_0_3, sr_0_4, sr_0_5, sr_0_6, sr_0_7, sr_0_8, sr_0_9, sr_1_0, sr_1_1, sr_1_2, sr_13_0, sr_15_0, sr_15_2, sr_40_0, sr_355_0, sr_355_1, sr_355_2, sr_355_3, sr_355_4, sr_355_5, sr_361_2, sr_361_5, sr_361_6, sr_363_0, sr_363_1, sr_376_0, sr_376_2, sr_378_0, sr_378_1, sr_378_2, sr_378_4, sr_378_8, sr_378_10, sr_378_11, sr_378_12, sr_378_14, sr_378_20, sr_378_21, sr_378_22, sr_378_23, sr_378_24, sr_378_25, sr_378_26, am_vs, H2]
      all_goals ((repeat' split) <;> first | rfl | trivial | (exfalso; omega))
  simp (disch := first | omega | simp only [am_ci, am_cr, am_ca]) only [eX10_layBrings_0, eX10_layBrings_1, eX10_layBrings_2, eX10_layBrings_5, eX10_layBrings_6, eX10_layBrings_9, eX10_layBrings_11, eX10_layBrings_12, eX10_layBrings_13, eX10_layBrings_14, eX10_layBrings_15, eX10_layBrings_16, eX10_layBrings_17, eX10_layBrings_18, eX10_layBrings_19, eX10_layBrings_22, eX10_layBrings_23, eX10_layBrings_26, eX10_layBrings_27, eX10_layBrings_28, eX10_layBrings_29, eX10_layBrings_32, eX10_layBrings_34, eX10_layBrings_35, eX10_layBrings_36, eX10_layBrings_37, eX10_layBrings_38, eX10_layBrings_41, eX10_layBrings_42, eX10_layBrings_45, eX10_layBrings_46, eX10_layBrings_48, eX10_layBrings_49, am_bi, Int.reduceEq, Int.reduceLT, Int.reduceLE, Int.reduceToNat, ite_self, Decidable.not_not, not_true_eq_false, not_false_eq_true, ↓reduceIte, am_ci, am_cr, am_ca, am_b0, am_b1, am_ts, am_tn, am_then_some, List.cons_append, List.nil_append, ne_eq, iI_lit, iI_add, iI_sub, iI_mul, iI_neg, iI_lt, iI_le, iI_eq, iI_in, iI_clz, dI_ap, dI_wr, setR_s, wE_R, setR_2, setR_n, setR_o, updI_s, updI_n, updI_2, tl_0, tl_1, tl_2, tl_3, tl_4, tl_5, tl_6, tl_7, tl_8, tl_9, tl_10, tl_11, tl_12, tl_13, tl_14, tl_15, tl_16, tn_3, tn_5, tn_13, tn_21, tn_29, tn_33, tn_37, tn_41, tn_45, tn_49, tn_53, tn_57, tn_61, tn_40, tn_p, tn_0, true_and, and_true, sk_0, sk_1, sk_2, sl_2, sk_3, sl_3, sk_4, sl_4, sk_5, sl_5, sk_6, sl_6, sk_7, sl_7, sk_8, sl_8, sk_9, sl_9, sk_10, sl_10, sk_11, sl_11, sk_12, sl_12, sk_13, sk_14, sl_14, sk_15, sk_40, sk_41, sl_41, sk_330, sl_330, sk_355, sk_356, sl_356, sk_357, sl_357, sk_358, sl_358, sk_359, sl_359, sk_360, sl_360, sk_361, sk_362, sl_362, sk_363, sk_376, sk_377, sl_377, sk_378, sk_379, sl_379, sk_380, sl_380, sk_381, sl_381, sk_382, sl_382, sk_383, sl_383, sk_384, sl_384, sk_385, sl_385, sk_386, sl_386, sk_387, sl_387, sk_388, sl_388, sk_389, sl_389, sk_390, sl_390, sk_391, sl_391, sk_392, sl_392, sk_393, sl_393, sk_394, sl_394, sr_0_0, sr_0_1, sr_0_2, sr_0_3, sr_0_4, sr_0_5, sr_0_6, sr_0_7, sr_0_8, sr_0_9, sr_1_0, sr_1_1, sr_1_2, sr_13_0, sr_15_0, sr_15_2, sr_40_0, sr_355_0, sr_355_1, sr_355_2, sr_355_3, sr_355_4, sr_355_5, sr_361_2, sr_361_5, sr_361_6, sr_363_0, sr_363_1, sr_376_0, sr_376_2, sr_378_0, sr_378_1, sr_378_2, sr_378_4, sr_378_8, sr_378_10, sr_378_11, sr_378_12, sr_378_14, sr_378_20, sr_378_21, sr_378_22, sr_378_23, sr_378_24, sr_378_25, sr_378_26, am_vs, H1, iI_bit]
  by_cases c1 : (E 383 (45 + s)).toNat / 2 ^ n % 2 = 1
  · by_cases c3 : E 383 (29 + s) = 5
    · repeat (first | rw [if_pos (by omega)] | rw [if_neg (by omega)])
      exact L 1 1 (by rw [if_pos c1]) (by rw [if_pos c3]) _
    · repeat (first | rw [if_pos (by omega)] | rw [if_neg (by omega)])
      exact L 1 0 (by rw [if_pos c1]) (by rw [if_neg c3]) _
  · by_cases c3 : E 383 (29 + s) = 5
    · repeat (first | rw [if_pos (by omega)] | rw [if_neg (by omega)])
      exact L 0 1 (by rw [if_neg c1]) (by rw [if_pos c3]) _
    · repeat (first | rw [if_pos (by omega)] | rw [if_neg (by omega)])
      exact L 0 0 (by rw [if_neg c1]) (by rw [if_neg c3]) _
