/-! ===== the reference: what a day keeps; sail, days, undo ===== -/
theorem bT_le {t : Nat → Int} (h : bT t) {k : Nat} (hk : k ≤ 4) : bT (leT t k) := by
  have hb := fun s hs => (h.2.2.2.2.2.2.2.1 s hs).2.2.2
  obtain ⟨aC, a0, a1, a2, a3, a4, aw, as, an, ak⟩ := h
  have o : ∀ i, (i < 45 ∨ 49 ≤ i) → leT t k i = t i := fun i hi => leT_o t k (by omega)
  refine ⟨leT_C aC hb hk, by rw [o 0 (by omega)]; exact a0, by rw [o 1 (by omega)]; exact a1, by rw [o 2 (by omega)]; exact a2, by rw [o 3 (by omega)]; exact a3, by rw [o 4 (by omega)]; exact a4, fun w hw => ?_, fun s hs => ?_, fun n hn => ?_, fun i hi => ?_⟩
  · rw [o (5 + w) (by omega), o (13 + w) (by omega), o (21 + w) (by omega)]; exact aw w hw
  · rw [o (29 + s) (by omega), o (33 + s) (by omega), o (37 + s) (by omega)]
    exact ⟨(as s hs).1, (as s hs).2.1, (as s hs).2.2.1, leT_B hb k hk s hs⟩
  · rw [o (53 + n) (by omega), o 3 (by omega)]; exact an n hn
  · rw [o i (by omega), o 3 (by omega)]; exact ak i hi
/-- a league's row, pence and all -/
def vT (t : Nat → Int) : Prop := bT t ∧ pB (40 * t 3) 0 t
theorem goT_3 {t : Nat → Int} (h : bT t) : (goT t).1 3 = t 3 + 1 := by
  have a2 := h.2.2.2.1
  unfold goT
  simp only
  rw [leT_o _ _ (by omega), shT_o _ _ (by omega) _ (by omega), waT_o _ (by omega), updI_s]
theorem goT_o {t : Nat → Int} (h : bT t) {i : Nat} (hi : i < 37 ∨ (49 ≤ i ∧ i < 61)) (h3 : i ≠ 3) : (goT t).1 i = t i := by
  have a2 := h.2.2.2.1
  unfold goT
  simp only
  rw [leT_o _ _ (by omega), shT_o _ _ (by omega) _ (by omega), waT_o _ (by omega), updI_n h3]
theorem vT_go {t : Nat → Int} (h : vT t) (hd : t 3 < 150) : vT (goT t).1 := by
  obtain ⟨hb, hp⟩ := h
  have a2 := hb.2.2.2.1
  have a3 := hb.2.2.2.2.1
  have ht := bT_day hb hd
  have hA := waT_b ht (t 1).toNat
  have hpA : pB (40 * t 3) 0 (waT (updI t 3 (t 3 + 1)) (t 1).toNat).1 := fun s hs => by rw [waT_o _ (by omega), updI_n (by omega)]; exact hp s hs
  obtain ⟨hS, hpS⟩ := shT_b (m := (waT (updI t 3 (t 3 + 1)) (t 1).toNat).2) hA (by omega) hpA (t 2).toNat (by omega)
  have e3 := goT_3 hb
  refine ⟨bT_le hS (by omega), fun s hs => ?_⟩
  rw [e3]
  have := hpS s hs
  have e41 : (goT t).1 (41 + s) = (shT (waT (updI t 3 (t 3 + 1)) (t 1).toNat).1 (waT (updI t 3 (t 3 + 1)) (t 1).toNat).2 (t 2).toNat).1 (41 + s) := leT_o _ _ (by omega)
  rw [e41]
  split at this <;> split <;> omega
theorem goT_2 {t : Nat → Int} (h : bT t) : 0 ≤ (goT t).2 ∧ (goT t).2 ≤ 100 := by
  have a1 := h.2.2.1
  have a2 := h.2.2.2.1
  have h1 := waT_2 (updI t 3 (t 3 + 1)) (t 1).toNat
  have h2 := shT_2 (waT (updI t 3 (t 3 + 1)) (t 1).toNat).1 (waT (updI t 3 (t 3 + 1)) (t 1).toNat).2 (t 2).toNat
  unfold goT
  simp only
  omega
theorem r_goes' {d q : Nat} {E : Nat → Nat → Int} (hq : rQ q) (h : vT (E q)) (hd : E q 3 < 150) : am_sem (d + 3) 166 [.ref q] am_S0 (dI E) = some (some (.int (iI (goT (E q)).2)), am_S0, dI (setR E q (goT (E q)).1)) :=
  r_goes hq h.1 hd (c := 40 * E q 3) (by omega) h.2
theorem vT_ha {t : Nat → Int} (h : vT t) {p n : Nat} (hp : p < 6) (hn : n < 4) : vT (leT (haT t p n) (t 2).toNat) := by
  have a2 := h.1.2.2.2.1
  refine ⟨bT_le (bT_ha h.1 hp hn) (by omega), fun s hs => ?_⟩
  rw [leT_o _ _ (by omega), leT_o _ _ (by omega)]
  have e1 : haT t p n (41 + s) = t (41 + s) := by unfold haT; simp (disch := omega) only [updI_n]
  have e2 : haT t p n 3 = t 3 := by unfold haT; simp (disch := omega) only [updI_n]
  rw [e1, e2]
  exact h.2 s hs
theorem enT_b {t : Nat → Int} (h : bT t) {s w : Nat} (hw : w < 8) : enT t s w < 6 ∧ (0 ≤ enT t s w ∨ enT t s w = -1) := by
  have := h.2.2.2.2.2.2.1 w hw
  unfold enT
  (repeat' split) <;> omega
theorem vT_sa {t : Nat → Int} (h : vT t) {s w : Nat} (hs : s < 4) (hw : w < 8) (he : 0 ≤ enT t s w) : vT (saT t s w) := by
  have h1 := enT_b h.1 (s := s) hw
  have h2 := tkT_b (t := t) (s := s) (h.1.2.2.2.2.2.2.1 w hw).2.2
  have h3 := h.1.2.2.2.2.1
  unfold saT
  refine ⟨?_, fun s hs => ?_⟩
  · refine bT_upd (bT_upd h.1 ?_) ?_ <;> (try simp (disch := omega) only [updI_n]) <;> (unfold okZ; omega)
  · simp (disch := omega) only [updI_n]
    exact h.2 s hs
theorem r_sail {d : Nat} {y z : Int} {E : Nat → Nat → Int} (hz : -2147483648 ≤ z ∧ z < 2147483648) (hy : -2147483648 ≤ y ∧ y < 2147483648) (hv : vT (E 383)) (ha : 0 ≤ E 378 9 ∧ E 378 9 ≤ 24) : am_sem (d + 4) 159 [.ref 378, .int (iI z), .int (iI y)] am_S0 (dI E) =
    if ¬ ((0 ≤ z ∧ z < E 383 2) ∧ 0 ≤ y ∧ y < E 383 1) then some (some (.int (iI (-1000001))), am_S0, dI E) else if enT (E 383) z.toNat y.toNat < 0 then some (some (.int (iI (-1000002))), am_S0, dI E) else some (some (.int (iI (E 383 3 + tkT (E 383) z.toNat y.toNat))), am_S0, dI (setR (reE E) 383 (saT (E 383) z.toNat y.toNat))) := by
  have hb := hv.1
  have H1 := r_isShip (d := d + 1) (E := E) hz hb.1
  have H2 := r_isWay (d := d + 1) (E := E) hy hb.1
  have a1 := hb.2.2.1
  have a2 := hb.2.2.2.1
  by_cases h1 : 0 ≤ z ∧ z < E 383 2
  · by_cases h2 : 0 ≤ y ∧ y < E 383 1
    · rw [if_neg (by omega)]
      obtain ⟨s, rfl⟩ := Int.eq_ofNat_of_zero_le h1.1
      obtain ⟨w, rfl⟩ := Int.eq_ofNat_of_zero_le h2.1
      rw [show ((s : Int)).toNat = s from rfl, show ((w : Int)).toNat = w from rfl]
      have H3 := r_endOf (d := d + 2) (q := 383) (E := E) ⟨sk_383, sl_383⟩ hb.1 (s := s) (w := w) (by omega) (by omega)
      have e0 := enT_b hb (s := s) (w := w) (by omega)
      by_cases h3 : enT (E 383) s w < 0
      · rw [if_pos h3]
        refine mX10_sail rfl rfl ?_
        simp (disch := first | omega | simp only [am_ci, am_cr, am_ca]) only [eX10_sail_0, eX10_sail_1, eX10_sail_2, eX10_sail_5, eX10_sail_8, eX10_sail_9, eX10_sail_10, eX10_sail_13, eX10_sail_16, eX10_sail_18, eX10_sail_19, eX10_sail_20, eX10_sail_23, eX10_sail_24, eX10_sail_25, eX10_sail_28, eX10_sail_31, eX10_sail_33, eX10_sail_34, eX10_sail_35, eX10_sail_38, eX10_sail_39, eX10_sail_42, eX10_sail_43, eX10_sail_44, eX10_sail_47, eX10_sail_48, eX10_sail_51, eX10_sail_53, eX10_sail_54, eX10_sail_55, eX10_sail_56, am_bi, Int.reduceEq, Int.reduceLT, Int.reduceLE, Int.reduceToNat, ite_self, Decidable.not_not, not_true_eq_false, not_false_eq_true, ↓reduceIte, am_ci, am_cr, am_ca, am_b0, am_b1, am_ts, am_tn, am_then_some, List.cons_append, List.nil_append, ne_eq, iI_lit, iI_add, iI_sub, iI_mul, iI_neg, iI_lt, iI_le, iI_eq, iI_in, iI_clz, dI_ap, dI_wr, setR_s, wE_R, setR_2, setR_n, setR_o, updI_s, updI_n, updI_2, tl_0, tl_1, tl_2, tl_3, tl_4, tl_5, tl_6, tl_7, tl_8, tl_9, tl_10, tl_11, tl_12, tl_13, tl_14, tl_15, tl_16, tn_3, tn_5, tn_13, tn_21, tn_29, tn_33, tn_37, tn_41, tn_45, tn_49, tn_53, tn_57, tn_61, tn_40, tn_p, tn_0, true_and, and_true, sk_0, sk_1, sk_2, sl_2, sk_3, sl_3, sk_4, sl_4, sk_5, sl_5, sk_6, sl_6, sk_7, sl_7, sk_8, sl_8, sk_9, sl_9, sk_10, sl_10, sk_11, sl_11, sk_12, sl_12, sk_13, sk_14, sl_14, sk_15, sk_40, sk_41, sl_41, sk_330, sl_330, sk_355, sk_356, sl_356, sk_357, sl_357, sk_358, sl_358, sk_359, sl_359, sk_360, sl_360, sk_361, sk_362, sl_362, sk_363, sk_376, sk_377, sl_377, sk_378, sk_379, sl_379, sk_380, sl_380, sk_381, sl_381, sk_382, sl_382, sk_383, sl_383, sk_384, sl_384, sk_385, sl_385, sk_386, sl_386, sk_387, sl_387, sk_388, sl_388, sk_389, sl_389, sk_390, sl_390, sk_391, sl_391, sk_392, sl_392, sk_393, sl_393, sk_394, sl_394, sr_0_0, sr_0_1, sr_0_2, sr_0_3, sr_0_4, sr_0_5, sr_0_6, sr_0_7, sr_0_8, sr_0_9, sr_1_0, sr_1_1, sr_1_2, sr_13_0, sr_15_0, sr_15_2, sr_40_0, sr_355_0, sr_355_1, sr_355_2, sr_355_3, sr_355_4, sr_355_5, sr_361_2, sr_361_5, sr_361_6, sr_363_0, sr_363_1, sr_376_0, sr_376_2, sr_378_0, sr_378_1, sr_378_2, sr_378_4, sr_378_8, sr_378_10, sr_378_11, sr_378_12, sr_378_14, sr_378_20, sr_378_21, sr_378_22, sr_378_23, sr_378_24, sr_378_25, sr_378_26, am_vs, H1, H2, h1, h2, H3, h3]
        all_goals ((repeat' split) <;> first | rfl | trivial | (exfalso; omega))
      · rw [if_neg h3]
        refine mX10_sail rfl rfl ?_
        have e3 : reE E 383 = E 383 := reE_o E (by omega) (by omega)
        have H4 := r_remember (d := d + 1) (E := E) ha
        have H5 := r_sails (d := d + 1) (q := 383) (E := reE E) ⟨sk_383, sl_383⟩ (by rw [e3]; exact hb) (s := s) (w := w) (by omega) (by omega)
        rw [e3] at H5
        have e4 : saT (E 383) s w (37 + s) = E 383 3 + tkT (E 383) s w := by unfold saT; rw [updI_n (by omega), updI_s]
        simp (disch := first | omega | simp only [am_ci, am_cr, am_ca]) only [eX10_sail_0, eX10_sail_1, eX10_sail_2, eX10_sail_5, eX10_sail_8, eX10_sail_9, eX10_sail_10, eX10_sail_13, eX10_sail_16, eX10_sail_18, eX10_sail_19, eX10_sail_20, eX10_sail_23, eX10_sail_24, eX10_sail_25, eX10_sail_28, eX10_sail_31, eX10_sail_33, eX10_sail_34, eX10_sail_35, eX10_sail_38, eX10_sail_39, eX10_sail_42, eX10_sail_43, eX10_sail_44, eX10_sail_47, eX10_sail_48, eX10_sail_51, eX10_sail_53, eX10_sail_54, eX10_sail_55, eX10_sail_56, am_bi, Int.reduceEq, Int.reduceLT, Int.reduceLE, Int.reduceToNat, ite_self, Decidable.not_not, not_true_eq_false, not_false_eq_true, ↓reduceIte, am_ci, am_cr, am_ca, am_b0, am_b1, am_ts, am_tn, am_then_some, List.cons_append, List.nil_append, ne_eq, iI_lit, iI_add, iI_sub, iI_mul, iI_neg, iI_lt, iI_le, iI_eq, iI_in, iI_clz, dI_ap, dI_wr, setR_s, wE_R, setR_2, setR_n, setR_o, updI_s, updI_n, updI_2, tl_0, tl_1, tl_2, tl_3, tl_4, tl_5, tl_6, tl_7, tl_8, tl_9, tl_10, tl_11, tl_12, tl_13, tl_14, tl_15, tl_16, tn_3, tn_5, tn_13, tn_21, tn_29, tn_33, tn_37, tn_41, tn_45, tn_49, tn_53, tn_57, tn_61, tn_40, tn_p, tn_0, true_and, and_true, sk_0, sk_1, sk_2, sl_2, sk_3, sl_3, sk_4, sl_4, sk_5, sl_5, sk_6, sl_6, sk_7, sl_7, sk_8, sl_8, sk_9, sl_9, sk_10, sl_10, sk_11, sl_11, sk_12, sl_12, sk_13, sk_14, sl_14, sk_15, sk_40, sk_41, sl_41, sk_330, sl_330, sk_355, sk_356, sl_356, sk_357, sl_357, sk_358, sl_358, sk_359, sl_359, sk_360, sl_360, sk_361, sk_362, sl_362, sk_363, sk_376, sk_377, sl_377, sk_378, sk_379, sl_379, sk_380, sl_380, sk_381, sl_381, sk_382, sl_382, sk_383, sl_383, sk_384, sl_384, sk_385, sl_385, sk_386, sl_386, sk_387, sl_387, sk_388, sl_388, sk_389, sl_389, sk_390, sl_390, sk_391, sl_391, sk_392, sl_392, sk_393, sl_393, sk_394, sl_394, sr_0_0, sr_0_1, sr_0_2, sr_0_3, sr_0_4, sr_0_5, sr_0_6, sr_0_7, sr_0_8, sr_0_9, sr_1_0, sr_1_1, sr_1_2, sr_13_0, sr_15_0, sr_15_2, sr_40_0, sr_355_0, sr_355_1, sr_355_2, sr_355_3, sr_355_4, sr_355_5, sr_361_2, sr_361_5, sr_361_6, sr_363_0, sr_363_1, sr_376_0, sr_376_2, sr_378_0, sr_378_1, sr_378_2, sr_378_4, sr_378_8, sr_378_10, sr_378_11, sr_378_12, sr_378_14, sr_378_20, sr_378_21, sr_378_22, sr_378_23, sr_378_24, sr_378_25, sr_378_26, am_vs, H1, H2, h1, h2, H3, h3, H4, H5, e4]
        all_goals ((repeat' split) <;> first | rfl | trivial | (exfalso; omega))
    · rw [if_pos (by omega)]
      refine mX10_sail rfl rfl ?_
      simp (disch := first | omega | simp only [am_ci, am_cr, am_ca]) only [eX10_sail_0, eX10_sail_1, eX10_sail_2, eX10_sail_5, eX10_sail_8, eX10_sail_9, eX10_sail_10, eX10_sail_13, eX10_sail_16, eX10_sail_18, eX10_sail_19, eX10_sail_20, eX10_sail_23, eX10_sail_24, eX10_sail_25, eX10_sail_28, eX10_sail_31, eX10_sail_33, eX10_sail_34, eX10_sail_35, eX10_sail_38, eX10_sail_39, eX10_sail_42, eX10_sail_43, eX10_sail_44, eX10_sail_47, eX10_sail_48, eX10_sail_51, eX10_sail_53, eX10_sail_54, eX10_sail_55, eX10_sail_56, am_bi, Int.reduceEq, Int.reduceLT, Int.reduceLE, Int.reduceToNat, ite_self, Decidable.not_not, not_true_eq_false, not_false_eq_true, ↓reduceIte, am_ci, am_cr, am_ca, am_b0, am_b1, am_ts, am_tn, am_then_some, List.cons_append, List.nil_append, ne_eq, iI_lit, iI_add, iI_sub, iI_mul, iI_neg, iI_lt, iI_le, iI_eq, iI_in, iI_clz, dI_ap, dI_wr, setR_s, wE_R, setR_2, setR_n, setR_o, updI_s, updI_n, updI_2, tl_0, tl_1, tl_2, tl_3, tl_4, tl_5, tl_6, tl_7, tl_8, tl_9, tl_10, tl_11, tl_12, tl_13, tl_14, tl_15, tl_16, tn_3, tn_5, tn_13, tn_21, tn_29, tn_33, tn_37, tn_41, tn_45, tn_49, tn_53, tn_57, tn_61, tn_40, tn_p, tn_0, true_and, and_true, sk_0, sk_1, sk_2, sl_2, sk_3, sl_3, sk_4, sl_4, sk_5, sl_5, sk_6, sl_6, sk_7, sl_7, sk_8, sl_8, sk_9, sl_9, sk_10, sl_10, sk_11, sl_11, sk_12, sl_12, sk_13, sk_14, sl_14, sk_15, sk_40, sk_41, sl_41, sk_330, sl_330, sk_355, sk_356, sl_356, sk_357, sl_357, sk_358, sl_358, sk_359, sl_359, sk_360, sl_360, sk_361, sk_362, sl_362, sk_363, sk_376, sk_377, sl_377, sk_378, sk_379, sl_379, sk_380, sl_380, sk_381, sl_381, sk_382, sl_382, sk_383, sl_383, sk_384, sl_384, sk_385, sl_385, sk_386, sl_386, sk_387, sl_387, sk_388, sl_388, sk_389, sl_389, sk_390, sl_390, sk_391, sl_391, sk_392, sl_392, sk_393, sl_393, sk_394, sl_394, sr_0_0, sr_0_1, sr_0_2, sr_0_3, sr_0_4, sr_0_5, sr_0_6, sr_0_7, sr_0_8, sr_0_9, sr_1_0, sr_1_1, sr_1_2, sr_13_0, sr_15_0, sr_15_2, sr_40_0, sr_355_0, sr_355_1, sr_355_2, sr_355_3, sr_355_4, sr_355_5, sr_361_2, sr_361_5, sr_361_6, sr_363_0, sr_363_1, sr_376_0, sr_376_2, sr_378_0, sr_378_1, sr_378_2, sr_378_4, sr_378_8, sr_378_10, sr_378_11, sr_378_12, sr_378_14, sr_378_20, sr_378_21, sr_378_22, sr_378_23, sr_378_24, sr_378_25, sr_378_26, am_vs, H1, H2, h1, h2]
      all_goals ((repeat' split) <;> first | rfl | trivial | (exfalso; omega))
  · rw [if_pos (by omega)]
    refine mX10_sail rfl rfl ?_
    simp (disch := first | omega | simp only [am_ci, am_cr, am_ca]) only [eX10_sail_0, eX10_sail_1, eX10_sail_2, eX10_sail_5, eX10_sail_8, eX10_sail_9, eX10_sail_10, eX10_sail_13, eX10_sail_16, eX10_sail_18, eX10_sail_19, eX10_sail_20, eX10_sail_23, eX10_sail_24, eX10_sail_25, eX10_sail_28, eX10_sail_31, eX10_sail_33, eX10_sail_34, eX10_sail_35, eX10_sail_38, eX10_sail_39, eX10_sail_42, eX10_sail_43, eX10_sail_44, eX10_sail_47, eX10_sail_48, eX10_sail_51, eX10_sail_53, eX10_sail_54, eX10_sail_55, eX10_sail_56, am_bi, Int.reduceEq, Int.reduceLT, Int.reduceLE, Int.reduceToNat, ite_self, Decidable.not_not, not_true_eq_false, not_false_eq_true, ↓reduceIte, am_ci, am_cr, am_ca, am_b0, am_b1, am_ts, am_tn, am_then_some, List.cons_append, List.nil_append, ne_eq, iI_lit, iI_add, iI_sub, iI_mul, iI_neg, iI_lt, iI_le, iI_eq, iI_in, iI_clz, dI_ap, dI_wr, setR_s, wE_R, setR_2, setR_n, setR_o, updI_s, updI_n, updI_2, tl_0, tl_1, tl_2, tl_3, tl_4, tl_5, tl_6, tl_7, tl_8, tl_9, tl_10, tl_11, tl_12, tl_13, tl_14, tl_15, tl_16, tn_3, tn_5, tn_13, tn_21, tn_29, tn_33, tn_37, tn_41, tn_45, tn_49, tn_53, tn_57, tn_61, tn_40, tn_p, tn_0, true_and, and_true, sk_0, sk_1, sk_2, sl_2, sk_3, sl_3, sk_4, sl_4, sk_5, sl_5, sk_6, sl_6, sk_7, sl_7, sk_8, sl_8, sk_9, sl_9, sk_10, sl_10, sk_11, sl_11, sk_12, sl_12, sk_13, sk_14, sl_14, sk_15, sk_40, sk_41, sl_41, sk_330, sl_330, sk_355, sk_356, sl_356, sk_357, sl_357, sk_358, sl_358, sk_359, sl_359, sk_360, sl_360, sk_361, sk_362, sl_362, sk_363, sk_376, sk_377, sl_377, sk_378, sk_379, sl_379, sk_380, sl_380, sk_381, sl_381, sk_382, sl_382, sk_383, sl_383, sk_384, sl_384, sk_385, sl_385, sk_386, sl_386, sk_387, sl_387, sk_388, sl_388, sk_389, sl_389, sk_390, sl_390, sk_391, sl_391, sk_392, sl_392, sk_393, sl_393, sk_394, sl_394, sr_0_0, sr_0_1, sr_0_2, sr_0_3, sr_0_4, sr_0_5, sr_0_6, sr_0_7, sr_0_8, sr_0_9, sr_1_0, sr_1_1, sr_1_2, sr_13_0, sr_15_0, sr_15_2, sr_40_0, sr_355_0, sr_355_1, sr_355_2, sr_355_3, sr_355_4, sr_355_5, sr_361_2, sr_361_5, sr_361_6, sr_363_0, sr_363_1, sr_376_0, sr_376_2, sr_378_0, sr_378_1, sr_378_2, sr_378_4, sr_378_8, sr_378_10, sr_378_11, sr_378_12, sr_378_14, sr_378_20, sr_378_21, sr_378_22, sr_378_23, sr_378_24, sr_378_25, sr_378_26, am_vs, H1, H2, h1]
    all_goals ((repeat' split) <;> first | rfl | trivial | (exfalso; omega))
