/-! ===== the class: beginning; the reader's league; acts ===== -/
theorem kn0_ha {t : Nat → Int} (h : kn0 t) {p n : Nat} (hn : n < 4) (h4 : t 4 = (n : Int)) : kn0 (haT t p n) := by
  intro q m hq hm hm4
  have e4 : haT t p n 4 = (n : Int) + 1 := by unfold haT; rw [updI_n (by omega), updI_n (by omega), updI_n (by omega), updI_s]
  rw [e4] at hm4
  have := h q m hq hm (by omega)
  unfold haT
  simp (disch := omega) only [updI_n]
  exact this
theorem bt0_ha {t : Nat → Int} (h : bt0 t) {p n : Nat} (hn : n < 4) (h4 : t 4 = (n : Int)) : bt0 (haT t p n) := by
  intro s hs hs2
  have e4 : haT t p n 4 = (n : Int) + 1 := by unfold haT; rw [updI_n (by omega), updI_n (by omega), updI_n (by omega), updI_s]
  have e45 : haT t p n (45 + s) = t (45 + s) := by unfold haT; simp (disch := omega) only [updI_n]
  have e2 : haT t p n 2 = t 2 := by unfold haT; simp (disch := omega) only [updI_n]
  rw [e2] at hs2
  have := h s hs hs2
  rw [h4, show ((n : Int)).toNat = n from rfl] at this
  rw [e4, e45, show ((n : Int) + 1).toNat = n + 1 by omega]
  have h1 : (2 : Nat) ^ n < 2 ^ (n + 1) := Nat.pow_lt_pow_right (by omega) (by omega)
  omega
theorem c_begin {d a p n : Nat} {E : Nat → Nat → Int} {t : Nat → Int} (h : am_lg a) (hR : RL0 E a t) (hb : bT t) (hd : RD E a t) (hk0 : kn0 t) (hp : p < 6) (h4 : t 4 = (n : Int)) (hn : n < 4) : ∃ E', (RL0 E' a (leT (haT t p n) (t 2).toNat) ∧ RD E' a (leT (haT t p n) (t 2).toNat) ∧ frL E E' a) ∧ am_sem (d + 4) 36 [.ref a, .int (iI p)] am_S0 (dI E) = some (some (.int (iI n)), am_S0, dI E') := by
  have t3 := hb.2.2.2.2.1
  have a2 := hb.2.2.2.1
  have e3 : E a 3 = t 3 := hR.1.2.2.2.1
  have e4 : E a 4 = (n : Int) := by rw [hR.1.2.2.2.2, h4]
  have hbh := bT_ha hb hp hn
  have hkh := kn0_ha (p := p) hk0 hn h4
  have o : ∀ i, (i < 53 ∧ i ≠ 4) → haT t p n i = t i := fun i hi => by unfold haT; simp (disch := omega) only [updI_n]
  have kp := hR.kn hp hn
  rw [if_pos (hk0 p n hp hn (by omega))] at kp
  have hRh : RL0 (setR (setR (setR (setR E a (updI (E a) 4 ((n : Int) + 1))) (a + 9) (updI (E (a + 9)) n (t 3))) (a + 10) (updI (E (a + 10)) n p)) (a + 11) (updI (E (a + 11)) (4 * p + n) (t 3))) a (haT t p n) := by
    obtain ⟨⟨h00, h01, h02, h03, h04⟩, h1, h2, h3, h4'⟩ := hR
    have q1 : RL0 (setR (setR (setR E a (updI (E a) 4 ((n : Int) + 1))) (a + 9) (updI (E (a + 9)) n (t 3))) (a + 10) (updI (E (a + 10)) n p)) a (updI (updI (updI t 4 ((n : Int) + 1)) (53 + n) (t 3)) (57 + n) p) := by
      refine ⟨?_, fun w hw hw2 => ?_, fun s hs hs2 => ?_, fun m hm hm2 => ?_, fun i hi => ?_⟩
      · simp (disch := omega) only [setR_n, setR_s, updI_n, updI_s]; exact ⟨h00, h01, h02, h03, trivial⟩
      · simp (disch := omega) only [setR_n, updI_n] at hw2 ⊢; exact h1 w hw hw2
      · simp (disch := omega) only [setR_n, updI_n] at hs2 ⊢; exact h2 s hs hs2
      · simp (disch := omega) only [setR_n, setR_s, updI_n, updI_s] at hm2 ⊢
        by_cases e : m = n
        · subst e; simp (disch := omega) only [updI_s, updI_n, and_self]
        · simp (disch := omega) only [updI_n]; exact h3 m hm (by omega)
      · simp (disch := omega) only [setR_n, updI_n]; exact h4' i hi
    have q2 := RL0_kn (p := p) (n := n) q1 t3.1
    rw [setR_n (by omega), setR_n (by omega), setR_n (by omega)] at q2
    exact q2
  have hDh : RDs (setR (setR (setR (setR E a (updI (E a) 4 ((n : Int) + 1))) (a + 9) (updI (E (a + 9)) n (t 3))) (a + 10) (updI (E (a + 10)) n p)) (a + 11) (updI (E (a + 11)) (4 * p + n) (t 3))) a (haT t p n) := by
    intro s hs hs2
    rw [o 2 (by omega)] at hs2
    rw [o 3 (by omega), o (37 + s) (by omega)]
    simp (disch := omega) only [setR_n]
    exact RDs_of hd hb s hs hs2
  have H1 := c_learn (d := d + 1) (p := p) (n := n) (E := setR (setR (setR E a (updI (E a) 4 ((n : Int) + 1))) (a + 9) (updI (E (a + 9)) n (t 3))) (a + 10) (updI (E (a + 10)) n p)) h hp hn (by simp (disch := omega) only [setR_n]; omega)
  simp (disch := omega) only [setR_n] at H1
  rw [if_pos kp, setR_s, updI_n (by omega), e3] at H1
  obtain ⟨E', ⟨r1, r2, r3⟩, r4⟩ := c_tellShips (d := d) h hRh hbh hkh hDh
  rw [o 2 (by omega)] at r1
  refine ⟨E', ⟨r1, ?_, ?_⟩, mX3_begin rfl rfl ?_⟩
  · intro s hs hs2
    rw [leT_o _ _ (by omega), o 2 (by omega)] at hs2
    rw [leT_o _ _ (by omega), leT_o _ _ (by omega), o 3 (by omega), o (37 + s) (by omega), r3]
    simp (disch := omega) only [setR_n]
    exact hd s hs hs2
  · refine frL_t ?_ r2
    exact frL_s (frL_s (frL_s (frL_s (frL_r E a) (by omega) _) (by omega) _) (by omega) _) (by omega) _
  · simp (disch := first | omega | simp only [am_ci, am_cr, am_ca]) only [eX3_begin_0, eX3_begin_1, eX3_begin_4, eX3_begin_5, eX3_begin_6, eX3_begin_7, eX3_begin_10, eX3_begin_12, eX3_begin_13, eX3_begin_14, eX3_begin_15, eX3_begin_18, eX3_begin_19, eX3_begin_20, eX3_begin_23, eX3_begin_24, eX3_begin_27, eX3_begin_28, eX3_begin_29, eX3_begin_32, eX3_begin_33, eX3_begin_34, eX3_begin_37, eX3_begin_38, eX3_begin_39, eX3_begin_40, eX3_begin_41, eX3_begin_42, eX3_begin_43, eX3_begin_46, eX3_begin_47, eX3_begin_48, eX3_begin_51, eX3_begin_52, am_bi, Int.reduceEq, Int.reduceLT, Int.reduceLE, Int.reduceToNat, ite_self, Decidable.not_not, not_true_eq_false, not_false_eq_true, ↓reduceIte, am_ci, am_cr, am_ca, am_b0, am_b1, am_ts, am_tn, am_then_some, List.cons_append, List.nil_append, ne_eq, iI_lit, iI_add, iI_sub, iI_mul, iI_neg, iI_lt, iI_le, iI_eq, iI_in, iI_clz, dI_ap, dI_wr, setR_s, wE_R, setR_2, setR_n, setR_o, updI_s, updI_n, updI_2, tl_0, tl_1, tl_2, tl_3, tl_4, tl_5, tl_6, tl_7, tl_8, tl_9, tl_10, tl_11, tl_12, tl_13, tl_14, tl_15, tl_16, tn_3, tn_5, tn_13, tn_21, tn_29, tn_33, tn_37, tn_41, tn_45, tn_49, tn_53, tn_57, tn_61, tn_40, tn_p, tn_0, true_and, and_true, sk_0, sk_1, sk_2, sl_2, sk_3, sl_3, sk_4, sl_4, sk_5, sl_5, sk_6, sl_6, sk_7, sl_7, sk_8, sl_8, sk_9, sl_9, sk_10, sl_10, sk_11, sl_11, sk_12, sl_12, sk_13, sk_14, sl_14, sk_15, sk_40, sk_41, sl_41, sk_330, sl_330, sk_355, sk_356, sl_356, sk_357, sl_357, sk_358, sl_358, sk_359, sl_359, sk_360, sl_360, sk_361, sk_362, sl_362, sk_363, sk_376, sk_377, sl_377, sk_378, sk_379, sl_379, sk_380, sl_380, sk_381, sl_381, sk_382, sl_382, sk_383, sl_383, sk_384, sl_384, sk_385, sl_385, sk_386, sl_386, sk_387, sl_387, sk_388, sl_388, sk_389, sl_389, sk_390, sl_390, sk_391, sl_391, sk_392, sl_392, sk_393, sl_393, sk_394, sl_394, sr_0_0, sr_0_1, sr_0_2, sr_0_3, sr_0_4, sr_0_5, sr_0_6, sr_0_7, sr_0_8, sr_0_9, sr_1_0, sr_1_1, sr_1_2, sr_13_0, sr_15_0, sr_15_2, sr_40_0, sr_355_0, sr_355_1, sr_355_2, sr_355_3, sr_355_4, sr_355_5, sr_361_2, sr_361_5, sr_361_6, sr_363_0, sr_363_1, sr_376_0, sr_376_2, sr_378_0, sr_378_1, sr_378_2, sr_378_4, sr_378_8, sr_378_10, sr_378_11, sr_378_12, sr_378_14, sr_378_20, sr_378_21, sr_378_22, sr_378_23, sr_378_24, sr_378_25, sr_378_26, am_vs, h.k, h.k9, h.r9, h.l9, h.k10, h.r10, h.l10, e3, e4, H1, r4]
    all_goals ((repeat' split) <;> first | rfl | trivial | (exfalso; omega))
def z0T : Nat → Int := fun i => if i < 61 then 0 else -1
def clE (E : Nat → Nat → Int) (a : Nat) : Nat → Nat → Int := setR (setR E a (updI (updI (updI (updI (updI (E a) 0 0) 1 0) 2 0) 3 0) 4 0)) (a + 11) (flT (E (a + 11)) (-1000000) 24)
theorem c_clear {d a : Nat} {E : Nat → Nat → Int} (h : am_lg a) : am_sem (d + 2) 31 [.ref a] am_S0 (dI E) = some (none, am_S0, dI (clE E a)) := by
  have H1 := j_fill (d := d) (q := a + 11) (L := 24) (z := -1000000) (E := setR E a (updI (updI (updI (updI (updI (E a) 0 0) 1 0) 2 0) 3 0) 4 0)) h.k11 h.l11 (by omega)
  rw [setR_n (by omega)] at H1
  refine mX3_clear rfl rfl ?_
  unfold clE
  simp (disch := first | omega | simp only [am_ci, am_cr, am_ca]) only [eX3_clear_0, eX3_clear_1, eX3_clear_2, eX3_clear_5, eX3_clear_6, eX3_clear_7, eX3_clear_10, eX3_clear_11, eX3_clear_12, eX3_clear_15, eX3_clear_16, eX3_clear_17, eX3_clear_20, eX3_clear_21, eX3_clear_22, eX3_clear_25, eX3_clear_26, eX3_clear_29, eX3_clear_31, eX3_clear_34, am_bi, Int.reduceEq, Int.reduceLT, Int.reduceLE, Int.reduceToNat, ite_self, Decidable.not_not, not_true_eq_false, not_false_eq_true, ↓reduceIte, am_ci, am_cr, am_ca, am_b0, am_b1, am_ts, am_tn, am_then_some, List.cons_append, List.nil_append, ne_eq, iI_lit, iI_add, iI_sub, iI_mul, iI_neg, iI_lt, iI_le, iI_eq, iI_in, iI_clz, dI_ap, dI_wr, setR_s, wE_R, setR_2, setR_n, setR_o, updI_s, updI_n, updI_2, tl_0, tl_1, tl_2, tl_3, tl_4, tl_5, tl_6, tl_7, tl_8, tl_9, tl_10, tl_11, tl_12, tl_13, tl_14, tl_15, tl_16, tn_3, tn_5, tn_13, tn_21, tn_29, tn_33, tn_37, tn_41, tn_45, tn_49, tn_53, tn_57, tn_61, tn_40, tn_p, tn_0, true_and, and_true, sk_0, sk_1, sk_2, sl_2, sk_3, sl_3, sk_4, sl_4, sk_5, sl_5, sk_6, sl_6, sk_7, sl_7, sk_8, sl_8, sk_9, sl_9, sk_10, sl_10, sk_11, sl_11, sk_12, sl_12, sk_13, sk_14, sl_14, sk_15, sk_40, sk_41, sl_41, sk_330, sl_330, sk_355, sk_356, sl_356, sk_357, sl_357, sk_358, sl_358, sk_359, sl_359, sk_360, sl_360, sk_361, sk_362, sl_362, sk_363, sk_376, sk_377, sl_377, sk_378, sk_379, sl_379, sk_380, sl_380, sk_381, sl_381, sk_382, sl_382, sk_383, sl_383, sk_384, sl_384, sk_385, sl_385, sk_386, sl_386, sk_387, sl_387, sk_388, sl_388, sk_389, sl_389, sk_390, sl_390, sk_391, sl_391, sk_392, sl_392, sk_393, sl_393, sk_394, sl_394, sr_0_0, sr_0_1, sr_0_2, sr_0_3, sr_0_4, sr_0_5, sr_0_6, sr_0_7, sr_0_8, sr_0_9, sr_1_0, sr_1_1, sr_1_2, sr_13_0, sr_15_0, sr_15_2, sr_40_0, sr_355_0, sr_355_1, sr_355_2, sr_355_3, sr_355_4, sr_355_5, sr_361_2, sr_361_5, sr_361_6, sr_363_0, sr_363_1, sr_376_0, sr_376_2, sr_378_0, sr_378_1, sr_378_2, sr_378_4, sr_378_8, sr_378_10, sr_378_11, sr_378_12, sr_378_14, sr_378_20, sr_378_21, sr_378_22, sr_378_23, sr_378_24, sr_378_25, sr_378_26, am_vs, h.k, h.k11, h.r11, h.l11, H1]
theorem RL0_cl (E : Nat → Nat → Int) (a : Nat) : RL0 (clE E a) a z0T ∧ RD (clE E a) a z0T ∧ frL E (clE E a) a := by
  unfold clE
  refine ⟨⟨?_, fun w hw hw2 => ?_, fun s hs hs2 => ?_, fun m hm hm2 => ?_, fun i hi => ?_⟩, fun s hs hs2 => ?_, ?_⟩
  · simp (disch := omega) only [setR_n, setR_s, updI_n, updI_s]; decide
  · exact absurd hw2 (show ¬ (w : Int) < 0 by omega)
  · exact absurd hs2 (show ¬ (s : Int) < 0 by omega)
  · exact absurd hm2 (show ¬ (m : Int) < 0 by omega)
  · rw [setR_s]
    have e : z0T (61 + i) = -1 := by unfold z0T; rw [if_neg (by omega)]
    unfold flT
    rw [if_pos hi, e, if_pos (by omega)]
  · exact absurd hs2 (show ¬ (s : Int) < 0 by omega)
  · exact frL_s (frL_s (frL_r E a) (by omega) _) (by omega) _
def wyU (t : Nat → Int) (k : Nat) (x y l : Int) : Nat → Int := updI (updI (updI (updI t (5 + k) x) (13 + k) y) (21 + k) l) 1 (k + 1)
theorem c_addWay {d a k : Nat} {x y l : Int} {E : Nat → Nat → Int} {t : Nat → Int} (h : am_lg a) (hR : RL0 E a t) (hd : RD E a t) (h1 : t 1 = (k : Int)) (hk : k < 8) : ∃ E', (RL0 E' a (wyU t k x y l) ∧ RD E' a (wyU t k x y l) ∧ frL E E' a) ∧ am_sem (d + 1) 32 [.ref a, .int (iI x), .int (iI y), .int (iI l)] am_S0 (dI E) = some (none, am_S0, dI E') := by
  have e1 : E a 1 = (k : Int) := by rw [hR.1.2.1, h1]
  refine ⟨setR (setR (setR (setR E (a + 1) (updI (E (a + 1)) k x)) (a + 2) (updI (E (a + 2)) k y)) (a + 3) (updI (E (a + 3)) k l)) a (updI (E a) 1 (k + 1)), ⟨?_, ?_, ?_⟩, mX3_addWay rfl rfl ?_⟩
  · obtain ⟨⟨h00, h01, h02, h03, h04⟩, g1, h2, h3, h4⟩ := hR
    unfold wyU
    refine ⟨?_, fun w hw hw2 => ?_, fun s hs hs2 => ?_, fun m hm hm2 => ?_, fun i hi => ?_⟩
    · simp (disch := omega) only [setR_n, setR_s, updI_n, updI_s]; exact ⟨h00, trivial, h02, h03, h04⟩
    · simp (disch := omega) only [setR_n, setR_s, updI_n, updI_s] at hw2 ⊢
      by_cases e : w = k
      · subst e; simp (disch := omega) only [updI_s, updI_n, and_self]
      · simp (disch := omega) only [updI_n]; exact g1 w hw (by omega)
    · simp (disch := omega) only [setR_n, updI_n] at hs2 ⊢; exact h2 s hs hs2
    · simp (disch := omega) only [setR_n, updI_n] at hm2 ⊢; exact h3 m hm hm2
    · simp (disch := omega) only [setR_n, updI_n]; exact h4 i hi
  · intro s hs hs2
    unfold wyU at hs2 ⊢
    simp (disch := omega) only [setR_n, updI_n] at hs2 ⊢
    exact hd s hs hs2
  · exact frL_s (frL_s (frL_s (frL_s (frL_r E a) (by omega) _) (by omega) _) (by omega) _) (by omega) _
  · simp (disch := first | omega | simp only [am_ci, am_cr, am_ca]) only [eX3_addWay_0, eX3_addWay_1, eX3_addWay_4, eX3_addWay_6, eX3_addWay_9, eX3_addWay_10, eX3_addWay_13, eX3_addWay_14, eX3_addWay_17, eX3_addWay_18, eX3_addWay_19, eX3_addWay_20, eX3_addWay_23, eX3_addWay_24, eX3_addWay_27, eX3_addWay_28, eX3_addWay_29, eX3_addWay_30, eX3_addWay_33, eX3_addWay_34, eX3_addWay_37, eX3_addWay_38, eX3_addWay_39, eX3_addWay_40, eX3_addWay_41, eX3_addWay_44, eX3_addWay_45, eX3_addWay_46, eX3_addWay_49, am_bi, Int.reduceEq, Int.reduceLT, Int.reduceLE, Int.reduceToNat, ite_self, Decidable.not_not, not_true_eq_false, not_false_eq_true, ↓reduceIte, am_ci, am_cr, am_ca, am_b0, am_b1, am_ts, am_tn, am_then_some, List.cons_append, List.nil_append, ne_eq, iI_lit, iI_add, iI_sub, iI_mul, iI_neg, iI_lt, iI_le, iI_eq, iI_in, iI_clz, dI_ap, dI_wr, setR_s, wE_R, setR_2, setR_n, setR_o, updI_s, updI_n, updI_2, tl_0, tl_1, tl_2, tl_3, tl_4, tl_5, tl_6, tl_7, tl_8, tl_9, tl_10, tl_11, tl_12, tl_13, tl_14, tl_15, tl_16, tn_3, tn_5, tn_13, tn_21, tn_29, tn_33, tn_37, tn_41, tn_45, tn_49, tn_53, tn_57, tn_61, tn_40, tn_p, tn_0, true_and, and_true, sk_0, sk_1, sk_2, sl_2, sk_3, sl_3, sk_4, sl_4, sk_5, sl_5, sk_6, sl_6, sk_7, sl_7, sk_8, sl_8, sk_9, sl_9, sk_10, sl_10, sk_11, sl_11, sk_12, sl_12, sk_13, sk_14, sl_14, sk_15, sk_40, sk_41, sl_41, sk_330, sl_330, sk_355, sk_356, sl_356, sk_357, sl_357, sk_358, sl_358, sk_359, sl_359, sk_360, sl_360, sk_361, sk_362, sl_362, sk_363, sk_376, sk_377, sl_377, sk_378, sk_379, sl_379, sk_380, sl_380, sk_381, sl_381, sk_382, sl_382, sk_383, sl_383, sk_384, sl_384, sk_385, sl_385, sk_386, sl_386, sk_387, sl_387, sk_388, sl_388, sk_389, sl_389, sk_390, sl_390, sk_391, sl_391, sk_392, sl_392, sk_393, sl_393, sk_394, sl_394, sr_0_0, sr_0_1, sr_0_2, sr_0_3, sr_0_4, sr_0_5, sr_0_6, sr_0_7, sr_0_8, sr_0_9, sr_1_0, sr_1_1, sr_1_2, sr_13_0, sr_15_0, sr_15_2, sr_40_0, sr_355_0, sr_355_1, sr_355_2, sr_355_3, sr_355_4, sr_355_5, sr_361_2, sr_361_5, sr_361_6, sr_363_0, sr_363_1, sr_376_0, sr_376_2, sr_378_0, sr_378_1, sr_378_2, sr_378_4, sr_378_8, sr_378_10, sr_378_11, sr_378_12, sr_378_14, sr_378_20, sr_378_21, sr_378_22, sr_378_23, sr_378_24, sr_378_25, sr_378_26, am_vs, h.k, h.k1, h.r1, h.l1, h.k2, h.r2, h.l2, h.k3, h.r3, h.l3, e1]
    all_goals ((repeat' split) <;> first | rfl | trivial | (exfalso; omega))
def shU (t : Nat → Int) (k : Nat) (x y : Int) : Nat → Int := updI (updI (updI t (29 + k) x) (33 + k) y) 2 (k + 1)
theorem c_addShip {d a k : Nat} {x y : Int} {E : Nat → Nat → Int} {t : Nat → Int} (h : am_lg a) (hR : RL0 E a t) (hd : RD E a t) (h1 : t 2 = (k : Int)) (hk : k < 4) (z37 : t (37 + k) = 0) (z41 : t (41 + k) = 0) (z45 : t (45 + k) = 0) (z3 : 0 ≤ t 3) : ∃ E', (RL0 E' a (shU t k x y) ∧ RD E' a (shU t k x y) ∧ frL E E' a) ∧ am_sem (d + 1) 33 [.ref a, .int (iI x), .int (iI y)] am_S0 (dI E) = some (none, am_S0, dI E') := by
  have e1 : E a 2 = (k : Int) := by rw [hR.1.2.2.1, h1]
  refine ⟨setR (setR (setR (setR (setR (setR E (a + 4) (updI (E (a + 4)) k x)) (a + 5) (updI (E (a + 5)) k y)) (a + 6) (updI (E (a + 6)) k 0)) (a + 7) (updI (E (a + 7)) k 0)) (a + 8) (updI (E (a + 8)) k 0)) a (updI (E a) 2 (k + 1)), ⟨?_, ?_, ?_⟩, mX3_addShip rfl rfl ?_⟩
  · obtain ⟨⟨h00, h01, h02, h03, h04⟩, g1, h2, h3, h4⟩ := hR
    unfold shU
    refine ⟨?_, fun w hw hw2 => ?_, fun s hs hs2 => ?_, fun m hm hm2 => ?_, fun i hi => ?_⟩
    · simp (disch := omega) only [setR_n, setR_s, updI_n, updI_s]; exact ⟨h00, h01, trivial, h03, h04⟩
    · simp (disch := omega) only [setR_n, updI_n] at hw2 ⊢; exact g1 w hw hw2
    · simp (disch := omega) only [setR_n, setR_s, updI_n, updI_s] at hs2 ⊢
      by_cases e : s = k
      · subst e; simp (disch := omega) only [updI_s, updI_n, true_and]; exact ⟨z41.symm, z45.symm⟩
      · simp (disch := omega) only [updI_n]; exact h2 s hs (by omega)
    · simp (disch := omega) only [setR_n, updI_n] at hm2 ⊢; exact h3 m hm hm2
    · simp (disch := omega) only [setR_n, updI_n]; exact h4 i hi
  · intro s hs hs2
    unfold shU at hs2 ⊢
    simp (disch := omega) only [setR_n, setR_s, updI_n, updI_s] at hs2 ⊢
    by_cases e : s = k
    · subst e; rw [updI_s]; exact Or.inl ⟨z37, by omega, z3⟩
    · rw [updI_n e]; exact hd s hs (by omega)
  · exact frL_s (frL_s (frL_s (frL_s (frL_s (frL_s (frL_r E a) (by omega) _) (by omega) _) (by omega) _) (by omega) _) (by omega) _) (by omega) _
  · simp (disch := first | omega | simp only [am_ci, am_cr, am_ca]) only [eX3_addShip_0, eX3_addShip_1, eX3_addShip_4, eX3_addShip_5, eX3_addShip_8, eX3_addShip_9, eX3_addShip_12, eX3_addShip_13, eX3_addShip_16, eX3_addShip_17, eX3_addShip_18, eX3_addShip_19, eX3_addShip_22, eX3_addShip_23, eX3_addShip_26, eX3_addShip_27, eX3_addShip_28, eX3_addShip_29, eX3_addShip_32, eX3_addShip_33, eX3_addShip_36, eX3_addShip_37, eX3_addShip_38, eX3_addShip_39, eX3_addShip_42, eX3_addShip_43, eX3_addShip_46, eX3_addShip_47, eX3_addShip_48, eX3_addShip_49, eX3_addShip_52, eX3_addShip_53, eX3_addShip_56, eX3_addShip_57, eX3_addShip_58, eX3_addShip_59, eX3_addShip_60, eX3_addShip_63, eX3_addShip_64, eX3_addShip_65, eX3_addShip_68, am_bi, Int.reduceEq, Int.reduceLT, Int.reduceLE, Int.reduceToNat, ite_self, Decidable.not_not, not_true_eq_false, not_false_eq_true, ↓reduceIte, am_ci, am_cr, am_ca, am_b0, am_b1, am_ts, am_tn, am_then_some, List.cons_append, List.nil_append, ne_eq, iI_lit, iI_add, iI_sub, iI_mul, iI_neg, iI_lt, iI_le, iI_eq, iI_in, iI_clz, dI_ap, dI_wr, setR_s, wE_R, setR_2, setR_n, setR_o, updI_s, updI_n, updI_2, tl_0, tl_1, tl_2, tl_3, tl_4, tl_5, tl_6, tl_7, tl_8, tl_9, tl_10, tl_11, tl_12, tl_13, tl_14, tl_15, tl_16, tn_3, tn_5, tn_13, tn_21, tn_29, tn_33, tn_37, tn_41, tn_45, tn_49, tn_53, tn_57, tn_61, tn_40, tn_p, tn_0, true_and, and_true, sk_0, sk_1, sk_2, sl_2, sk_3, sl_3, sk_4, sl_4, sk_5, sl_5, sk_6, sl_6, sk_7, sl_7, sk_8, sl_8, sk_9, sl_9, sk_10, sl_10, sk_11, sl_11, sk_12, sl_12, sk_13, sk_14, sl_14, sk_15, sk_40, sk_41, sl_41, sk_330, sl_330, sk_355, sk_356, sl_356, sk_357, sl_357, sk_358, sl_358, sk_359, sl_359, sk_360, sl_360, sk_361, sk_362, sl_362, sk_363, sk_376, sk_377, sl_377, sk_378, sk_379, sl_379, sk_380, sl_380, sk_381, sl_381, sk_382, sl_382, sk_383, sl_383, sk_384, sl_384, sk_385, sl_385, sk_386, sl_386, sk_387, sl_387, sk_388, sl_388, sk_389, sl_389, sk_390, sl_390, sk_391, sl_391, sk_392, sl_392, sk_393, sl_393, sk_394, sl_394, sr_0_0, sr_0_1, sr_0_2, sr_0_3, sr_0_4, sr_0_5, sr_0_6, sr_0_7, sr_0_8, sr_0_9, sr_1_0, sr_1_1, sr_1_2, sr_13_0, sr_15_0, sr_15_2, sr_40_0, sr_355_0, sr_355_1, sr_355_2, sr_355_3, sr_355_4, sr_355_5, sr_361_2, sr_361_5, sr_361_6, sr_363_0, sr_363_1, sr_376_0, sr_376_2, sr_378_0, sr_378_1, sr_378_2, sr_378_4, sr_378_8, sr_378_10, sr_378_11, sr_378_12, sr_378_14, sr_378_20, sr_378_21, sr_378_22, sr_378_23, sr_378_24, sr_378_25, sr_378_26, am_vs, h.k, h.k4, h.r4, h.l4, h.k5, h.r5, h.l5, h.k6, h.r6, h.l6, h.k7, h.r7, h.l7, h.k8, h.r8, h.l8, e1]
    all_goals ((repeat' split) <;> first | rfl | trivial | (exfalso; omega))
