/-! ===== days, undo, images, both ===== -/
theorem c_keepT {d n x : Nat} {f t : Nat → Int} {E : Nat → Nat → Int} (hA : acR E n x f) (hL : lgR E 28 t) (hO : oT t) : ∃ E' x', am_sem (d + 2) 2 [.ref 40, .ref 28] am_S0 (dI E) = some (none, am_S0, dI E') ∧ (∀ b, (b < 40 ∨ 329 < b) → E' b = E b) ∧ acR E' (if n = 24 then 24 else n + 1) x' (if n = 24 then cpT t 0 (dnT f 1955) 1955 85 else cpT t 0 f (85 * n) 85) := by
  obtain ⟨h1, h2, h3, h4, h5⟩ := hA
  have hx := am_lgB x h3
  have H1 := c_become (d := d) (a := 42 + 12 * x) (b := 28) (E := E) hx.1 am_lg28 (by omega)
  have fb := bcE_fr E (42 + 12 * x) 28
  have o40 : bcE E (42 + 12 * x) 28 40 = E 40 := fb 40 (by omega)
  have x1 : ∃ x' : Nat, x' < 24 ∧ (x' : Int) = (if (x : Int) + 1 < 24 then (x : Int) + 1 else 0) ∧ (∀ i, 1 ≤ i → i < 24 → (x' + 23 - i) % 24 = (x + 23 - (i - 1)) % 24 ∧ (x' + 23 - i) % 24 ≠ x) ∧ (x' + 23) % 24 = x := by
    by_cases c : x < 23
    · exact ⟨x + 1, by omega, by rw [if_pos (by omega)]; omega, fun i hi hi2 => ⟨by omega, by omega⟩, by omega⟩
    · exact ⟨0, by omega, by rw [if_neg (by omega)]; omega, fun i hi hi2 => ⟨by omega, by omega⟩, by omega⟩
  obtain ⟨x', y1, y2, y3, y4⟩ := x1
  have n1 : ∃ n' : Nat, n' = (if n = 24 then 24 else n + 1) ∧ (n' : Int) = (if (24 : Int) < (n : Int) + 1 then 24 else (n : Int) + 1) := ⟨_, rfl, by split <;> split <;> omega⟩
  obtain ⟨n', z1, z2⟩ := n1
  refine ⟨setR (bcE E (42 + 12 * x) 28) 40 (updI (updI (E 40) 1 x') 2 n'), x', mX0_keep rfl rfl ?_, fun b hb => ?_, ?_⟩
  · rw [y2, z2]
    simp (disch := first | omega | simp only [am_ci, am_cr, am_ca]) only [eX0_keep_0, eX0_keep_1, eX0_keep_4, eX0_keep_5, eX0_keep_8, eX0_keep_9, eX0_keep_10, eX0_keep_13, eX0_keep_14, eX0_keep_15, eX0_keep_18, eX0_keep_19, eX0_keep_20, eX0_keep_22, eX0_keep_25, eX0_keep_26, eX0_keep_29, eX0_keep_30, eX0_keep_31, eX0_keep_34, eX0_keep_35, eX0_keep_38, eX0_keep_39, eX0_keep_40, eX0_keep_43, eX0_keep_44, eX0_keep_45, eX0_keep_47, eX0_keep_50, eX0_keep_53, am_bi, Int.reduceEq, Int.reduceLT, Int.reduceLE, Int.reduceToNat, ite_self, Decidable.not_not, not_true_eq_false, not_false_eq_true, ↓reduceIte, am_ci, am_cr, am_ca, am_b0, am_b1, am_ts, am_tn, am_then_some, List.cons_append, List.nil_append, ne_eq, iI_lit, iI_add, iI_sub, iI_mul, iI_neg, iI_lt, iI_le, iI_eq, iI_in, iI_clz, dI_ap, dI_wr, setR_s, wE_R, setR_2, setR_n, setR_o, updI_s, updI_n, updI_2, tl_0, tl_1, tl_2, tl_3, tl_4, tl_5, tl_6, tl_7, tl_8, tl_9, tl_10, tl_11, tl_12, tl_13, tl_14, tl_15, tl_16, tn_3, tn_5, tn_13, tn_21, tn_29, tn_33, tn_37, tn_41, tn_45, tn_49, tn_53, tn_57, tn_61, tn_40, tn_p, tn_0, true_and, and_true, sk_0, sk_1, sk_2, sl_2, sk_3, sl_3, sk_4, sl_4, sk_5, sl_5, sk_6, sl_6, sk_7, sl_7, sk_8, sl_8, sk_9, sl_9, sk_10, sl_10, sk_11, sl_11, sk_12, sl_12, sk_13, sk_14, sl_14, sk_15, sk_40, sk_41, sl_41, sk_330, sl_330, sk_355, sk_356, sl_356, sk_357, sl_357, sk_358, sl_358, sk_359, sl_359, sk_360, sl_360, sk_361, sk_362, sl_362, sk_363, sk_376, sk_377, sl_377, sk_378, sk_379, sl_379, sk_380, sl_380, sk_381, sl_381, sk_382, sl_382, sk_383, sl_383, sk_384, sl_384, sk_385, sl_385, sk_386, sl_386, sk_387, sl_387, sk_388, sl_388, sk_389, sl_389, sk_390, sl_390, sk_391, sl_391, sk_392, sl_392, sk_393, sl_393, sk_394, sl_394, sr_0_0, sr_0_1, sr_0_2, sr_0_3, sr_0_4, sr_0_5, sr_0_6, sr_0_7, sr_0_8, sr_0_9, sr_1_0, sr_1_1, sr_1_2, sr_13_0, sr_15_0, sr_15_2, sr_40_0, sr_355_0, sr_355_1, sr_355_2, sr_355_3, sr_355_4, sr_355_5, sr_361_2, sr_361_5, sr_361_6, sr_363_0, sr_363_1, sr_376_0, sr_376_2, sr_378_0, sr_378_1, sr_378_2, sr_378_4, sr_378_8, sr_378_10, sr_378_11, sr_378_12, sr_378_14, sr_378_20, sr_378_21, sr_378_22, sr_378_23, sr_378_24, sr_378_25, sr_378_26, am_vs, hx.1.k, h1, h2, rb_0, am_lg28.k, H1, o40, iI_ite]
    all_goals ((repeat' split) <;> first | rfl | trivial | (exfalso; omega))
  · rw [setR_n (by omega)]; exact fb b (by omega)
  · rw [← z1]
    refine ⟨by rw [setR_s, updI_s], by rw [setR_s, updI_n (by omega), updI_s], y1, by rw [z1]; split <;> omega, fun i hi => ?_⟩
    have hz := hO.1.2
    have nz : n' = 24 ∧ n = 24 ∨ n' = n + 1 ∧ n < 24 := by rw [z1]; split <;> omega
    have hf0 : ∀ j, j < n' → lrT (if n = 24 then cpT t 0 (dnT f 1955) 1955 85 else cpT t 0 f (85 * n) 85) (85 * (n' - 1 - j)) = if j = 0 then t else lrT f (85 * (n - 1 - (j - 1))) := by
      intro j hj
      rcases nz with ⟨e1, e2⟩ | ⟨e1, e2⟩
      · rw [if_pos e2]
        by_cases j0 : j = 0
        · subst j0
          rw [if_pos rfl, show 85 * (n' - 1 - 0) = 1955 by omega, lrT_cp hz]
        · rw [if_neg j0, lrT_cn (by omega), lrT_dn (by omega), show 85 * (n' - 1 - j) + 85 = 85 * (n - 1 - (j - 1)) by omega]
      · rw [if_neg (by omega)]
        by_cases j0 : j = 0
        · subst j0
          rw [if_pos rfl, show 85 * (n' - 1 - 0) = 85 * n by omega, lrT_cp hz]
        · rw [if_neg j0, lrT_cn (by omega), show 85 * (n' - 1 - j) = 85 * (n - 1 - (j - 1)) by omega]
    rw [hf0 i hi]
    by_cases i0 : i = 0
    · subst i0
      rw [if_pos rfl]
      refine ⟨?_, hO⟩
      have e : acP x' 0 = 42 + 12 * x := by unfold acP; omega
      rw [e]
      refine lgR_fr (lgR_bc (a := 42 + 12 * x) hL) (fun b hb hb2 => setR_n (by omega))
    · rw [if_neg i0]
      have hy := y3 i (by omega) (by omega)
      have e : acP x' i = acP x (i - 1) := by unfold acP; rw [hy.1]
      have h5' := h5 (i - 1) (by omega)
      rw [e]
      refine ⟨lgR_fr h5'.1 (fun b hb hb2 => ?_), h5'.2⟩
      have hm := Nat.mod_lt (x + 23 - (i - 1)) (show 24 > 0 by omega)
      unfold acP at hb hb2
      rw [setR_n (by omega)]
      exact fb b (by omega)

theorem reE_cg {F G : Nat → Nat → Int} (h8 : F 378 = G 378) (h3 : F 383 = G 383) (h4 : F 384 = G 384) : reE F 378 = reE G 378 ∧ reE F 384 = reE G 384 := by
  unfold reE
  rw [h8, h3, h4]
  split
  · exact ⟨by rw [setR_s, setR_s], by rw [setR_n (by omega), setR_s, setR_n (by omega), setR_s]⟩
  · exact ⟨by rw [setR_s, setR_s], by rw [setR_n (by omega), setR_s, setR_n (by omega), setR_s]⟩
theorem dyE_cg {E F : Nat → Nat → Int} (h : ∀ b, 378 ≤ b → F b = E b) : ∀ k, (∀ b, 378 ≤ b → (dyE F k).1 b = (dyE E k).1 b) ∧ (∀ b, b < 378 → (dyE F k).1 b = F b) ∧ (dyE F k).2 = (dyE E k).2
  | 0 => ⟨h, fun _ _ => rfl, rfl⟩
  | k + 1 => by
    obtain ⟨i1, i2, i3⟩ := dyE_cg h k
    have r := reE_cg (i1 378 (by omega)) (i1 383 (by omega)) (i1 384 (by omega))
    rw [dyE_s, dyE_s]
    refine ⟨fun b hb => ?_, fun b hb => ?_, ?_⟩
    · simp only
      by_cases e : b = 383
      · subst e; rw [setR_s, setR_s, i1 383 (by omega)]
      · rw [setR_n e, setR_n e]
        by_cases e1 : b = 378
        · subst e1; exact r.1
        · by_cases e2 : b = 384
          · subst e2; exact r.2
          · rw [reE_o _ e1 e2, reE_o _ e1 e2]; exact i1 b hb
    · simp only
      rw [setR_n (by omega), reE_o _ (by omega) (by omega)]; exact i2 b hb
    · simp only
      rw [i3, i1 383 (by omega)]
theorem dyE_o {E : Nat → Nat → Int} {b : Nat} (h1 : b ≠ 378) (h2 : b ≠ 383) (h3 : b ≠ 384) : ∀ k, (dyE E k).1 b = E b
  | 0 => rfl
  | k + 1 => by
    rw [dyE_s]
    simp only
    rw [setR_n h2, reE_o _ h1 h3]; exact dyE_o h1 h2 h3 k
theorem dyE_8 {E : Nat → Nat → Int} {i : Nat} (hi : i ≠ 9) : ∀ k, (dyE E k).1 378 i = E 378 i
  | 0 => rfl
  | k + 1 => by
    have ih := dyE_8 (E := E) hi k
    rw [dyE_s]
    simp only
    rw [setR_n (by omega)]
    unfold reE
    split
    · rw [setR_s, updI_n hi]; exact ih
    · rw [setR_s, updI_n hi]; exact ih
theorem p_days {x : Int} {E : Nat → Nat → Int} (hx : i32 x) (hG : GG E) : pub 103 165 [.int (iI x)] E := by
  obtain ⟨⟨c0, c1, c2, c3, c4⟩, hb⟩ := lg_cnt hG
  obtain ⟨n, xx, m1, m2, m9⟩ := hG.2.2.2.2.1
  obtain ⟨w1, w2, w3, w4, w5, w6⟩ := gLg_w hG.2.2.2.1
  have nb := m2.2.2.2.1
  have H := q_isNone (d := 6) hG
  have a0 := hb.2.1
  have a3 := hb.2.2.2.2.1
  have HW : am_sem 7 92 [.int (iI x), .int (iI 1), .int (iI 20)] am_S0 (dI E) = _ := c_within (d := 6) (x := x) (y := 1) (z := 20) (S := am_S0) (D := dI E) hx (by omega) (by omega)
  have hI : aI E := ⟨w1.1, by omega, by omega⟩
  have R := r_days (d := 4) (E := E) hx hI w4 w2
  by_cases h0 : E 378 7 = 0
  · have z0 := w6.mp h0
    rw [if_pos h0] at R
    refine pub_r hG ?_ R
    refine mX9_days (d := 7) rfl rfl ?_
    simp (disch := first | omega | simp only [am_ci, am_cr, am_ca]) only [eX9_days_0, eX9_days_1, eX9_days_4, eX9_days_7, eX9_days_10, eX9_days_12, eX9_days_13, eX9_days_14, eX9_days_15, eX9_days_17, eX9_days_20, eX9_days_23, eX9_days_25, eX9_days_26, eX9_days_27, eX9_days_30, eX9_days_33, eX9_days_34, eX9_days_35, eX9_days_37, eX9_days_40, eX9_days_42, eX9_days_43, eX9_days_44, eX9_days_45, eX9_days_46, am_bi, Int.reduceEq, Int.reduceLT, Int.reduceLE, Int.reduceToNat, ite_self, Decidable.not_not, not_true_eq_false, not_false_eq_true, ↓reduceIte, am_ci, am_cr, am_ca, am_b0, am_b1, am_ts, am_tn, am_then_some, List.cons_append, List.nil_append, ne_eq, iI_lit, iI_add, iI_sub, iI_mul, iI_neg, iI_lt, iI_le, iI_eq, iI_in, iI_clz, dI_ap, dI_wr, setR_s, wE_R, setR_2, setR_n, setR_o, updI_s, updI_n, updI_2, tl_0, tl_1, tl_2, tl_3, tl_4, tl_5, tl_6, tl_7, tl_8, tl_9, tl_10, tl_11, tl_12, tl_13, tl_14, tl_15, tl_16, tn_3, tn_5, tn_13, tn_21, tn_29, tn_33, tn_37, tn_41, tn_45, tn_49, tn_53, tn_57, tn_61, tn_40, tn_p, tn_0, true_and, and_true, sk_0, sk_1, sk_2, sl_2, sk_3, sl_3, sk_4, sl_4, sk_5, sl_5, sk_6, sl_6, sk_7, sl_7, sk_8, sl_8, sk_9, sl_9, sk_10, sl_10, sk_11, sl_11, sk_12, sl_12, sk_13, sk_14, sl_14, sk_15, sk_40, sk_41, sl_41, sk_330, sl_330, sk_355, sk_356, sl_356, sk_357, sl_357, sk_358, sl_358, sk_359, sl_359, sk_360, sl_360, sk_361, sk_362, sl_362, sk_363, sk_376, sk_377, sl_377, sk_378, sk_379, sl_379, sk_380, sl_380, sk_381, sl_381, sk_382, sl_382, sk_383, sl_383, sk_384, sl_384, sk_385, sl_385, sk_386, sl_386, sk_387, sl_387, sk_388, sl_388, sk_389, sl_389, sk_390, sl_390, sk_391, sl_391, sk_392, sl_392, sk_393, sl_393, sk_394, sl_394, sr_0_0, sr_0_1, sr_0_2, sr_0_3, sr_0_4, sr_0_5, sr_0_6, sr_0_7, sr_0_8, sr_0_9, sr_1_0, sr_1_1, sr_1_2, sr_13_0, sr_15_0, sr_15_2, sr_40_0, sr_355_0, sr_355_1, sr_355_2, sr_355_3, sr_355_4, sr_355_5, sr_361_2, sr_361_5, sr_361_6, sr_363_0, sr_363_1, sr_376_0, sr_376_2, sr_378_0, sr_378_1, sr_378_2, sr_378_4, sr_378_8, sr_378_10, sr_378_11, sr_378_12, sr_378_14, sr_378_20, sr_378_21, sr_378_22, sr_378_23, sr_378_24, sr_378_25, sr_378_26, am_vs, H, z0, am_lg28.k]
  · have z0 : ¬ E 383 0 = 0 := fun h => h0 (w6.mpr h)
    rw [if_neg h0] at R
    have o := oT_of hG (x := 0) (Or.inr (Or.inr (Or.inr (Or.inr h0))))
    by_cases h1 : 1 ≤ x ∧ x ≤ 20
    · rw [if_neg (fun hx => hx h1)] at R
      by_cases h2 : 99 < E 383 3 + x
      · rw [if_pos h2] at R
        refine pub_r hG ?_ R
        refine mX9_days (d := 7) rfl rfl ?_
        simp (disch := first | omega | simp only [am_ci, am_cr, am_ca]) only [eX9_days_0, eX9_days_1, eX9_days_4, eX9_days_7, eX9_days_10, eX9_days_12, eX9_days_13, eX9_days_14, eX9_days_15, eX9_days_17, eX9_days_20, eX9_days_23, eX9_days_25, eX9_days_26, eX9_days_27, eX9_days_30, eX9_days_33, eX9_days_34, eX9_days_35, eX9_days_37, eX9_days_40, eX9_days_42, eX9_days_43, eX9_days_44, eX9_days_45, eX9_days_46, am_bi, Int.reduceEq, Int.reduceLT, Int.reduceLE, Int.reduceToNat, ite_self, Decidable.not_not, not_true_eq_false, not_false_eq_true, ↓reduceIte, am_ci, am_cr, am_ca, am_b0, am_b1, am_ts, am_tn, am_then_some, List.cons_append, List.nil_append, ne_eq, iI_lit, iI_add, iI_sub, iI_mul, iI_neg, iI_lt, iI_le, iI_eq, iI_in, iI_clz, dI_ap, dI_wr, setR_s, wE_R, setR_2, setR_n, setR_o, updI_s, updI_n, updI_2, tl_0, tl_1, tl_2, tl_3, tl_4, tl_5, tl_6, tl_7, tl_8, tl_9, tl_10, tl_11, tl_12, tl_13, tl_14, tl_15, tl_16, tn_3, tn_5, tn_13, tn_21, tn_29, tn_33, tn_37, tn_41, tn_45, tn_49, tn_53, tn_57, tn_61, tn_40, tn_p, tn_0, true_and, and_true, sk_0, sk_1, sk_2, sl_2, sk_3, sl_3, sk_4, sl_4, sk_5, sl_5, sk_6, sl_6, sk_7, sl_7, sk_8, sl_8, sk_9, sl_9, sk_10, sl_10, sk_11, sl_11, sk_12, sl_12, sk_13, sk_14, sl_14, sk_15, sk_40, sk_41, sl_41, sk_330, sl_330, sk_355, sk_356, sl_356, sk_357, sl_357, sk_358, sl_358, sk_359, sl_359, sk_360, sl_360, sk_361, sk_362, sl_362, sk_363, sk_376, sk_377, sl_377, sk_378, sk_379, sl_379, sk_380, sl_380, sk_381, sl_381, sk_382, sl_382, sk_383, sl_383, sk_384, sl_384, sk_385, sl_385, sk_386, sl_386, sk_387, sl_387, sk_388, sl_388, sk_389, sl_389, sk_390, sl_390, sk_391, sl_391, sk_392, sl_392, sk_393, sl_393, sk_394, sl_394, sr_0_0, sr_0_1, sr_0_2, sr_0_3, sr_0_4, sr_0_5, sr_0_6, sr_0_7, sr_0_8, sr_0_9, sr_1_0, sr_1_1, sr_1_2, sr_13_0, sr_15_0, sr_15_2, sr_40_0, sr_355_0, sr_355_1, sr_355_2, sr_355_3, sr_355_4, sr_355_5, sr_361_2, sr_361_5, sr_361_6, sr_363_0, sr_363_1, sr_376_0, sr_376_2, sr_378_0, sr_378_1, sr_378_2, sr_378_4, sr_378_8, sr_378_10, sr_378_11, sr_378_12, sr_378_14, sr_378_20, sr_378_21, sr_378_22, sr_378_23, sr_378_24, sr_378_25, sr_378_26, am_vs, H, z0, am_lg28.k, HW, h1, c3]
        repeat (first | rw [if_pos (by omega)] | rw [if_neg (by omega)])
        trivial
      · obtain ⟨m, rfl⟩ := Int.eq_ofNat_of_zero_le (show 0 ≤ x by omega)
        obtain ⟨F, ⟨f1, f2, f3, f4⟩, he⟩ := am_fwd (X := Nat → Nat → Int) (I := fun k F => (∀ b, (b < 28 ∨ 329 < b) → F b = E b) ∧ lgR F 28 ((dyE E k).1 383) ∧ oT ((dyE E k).1 383) ∧ ∃ nk xk : Nat, (dyE E k).1 378 9 = (nk : Int) ∧ acR F nk xk ((dyE E k).1 384)) (ev := fun k F R => am_ev (am_sem 7) 9 cX9_days 47 [.ref 0, .int (iI m), .int (iI (dyE E k).2), .int (iI k)] [] am_S0 (dI F) R) (n := m) (by
          rintro k F hk ⟨f1, f2, f3, nk, xk, f4, f5⟩
          obtain ⟨d1, d2, d3, d4⟩ := dyE_I hI k (by omega)
          obtain ⟨F1, x', K1, K2, K3⟩ := c_keepT (d := 5) f5 f2 f3
          have L1 : lgR F1 28 ((dyE E k).1 383) := lgR_fr f2 (fun b h1 h2 => K2 b (by omega))
          obtain ⟨F2, ⟨P1, P2, P3⟩, P4⟩ := c_passDay (d := 3) (a := 28) am_lg28 L1.1 L1.2 f3.1.1 (by omega) f3.2.2.1
          have g2 := goT_2 f3.1.1.1
          have g3 := goT_3 f3.1.1.1
          have r := reE_4 (F := (dyE E k).1) (n := nk) f4
          refine ⟨F2, ⟨fun b hb => by rw [P3 b (by omega), K2 b (by omega)]; exact f1 b hb, ?_, ?_, (if nk = 24 then 24 else nk + 1), x', ?_, ?_⟩, fun R ih => ?_⟩
          · rw [dyE_s]; simp only; rw [setR_s]; exact ⟨P1, P2⟩
          · rw [dyE_s]; simp only; rw [setR_s]; exact ⟨wT_go f3.1 (by omega), by omega, q_go f3.1 (by omega) f3.2.2⟩
          · rw [dyE_s]; simp only; rw [setR_n (by omega), r.2, updI_s]
          · rw [dyE_s]; simp only; rw [setR_n (by omega), r.1]
            exact acR_fr K3 (fun b h1 h2 => P3 b (by omega))
          · rw [dyE_s] at ih
            simp only at ih
            rw [eX9_days_47]
            simp (disch := first | omega | simp only [am_ci, am_cr, am_ca]) only [eX9_days_48, eX9_days_49, eX9_days_52, eX9_days_53, eX9_days_56, eX9_days_57, eX9_days_60, eX9_days_63, eX9_days_64, eX9_days_65, eX9_days_68, eX9_days_71, eX9_days_72, eX9_days_73, eX9_days_76, am_bi, Int.reduceEq, Int.reduceLT, Int.reduceLE, Int.reduceToNat, ite_self, Decidable.not_not, not_true_eq_false, not_false_eq_true, ↓reduceIte, am_ci, am_cr, am_ca, am_b0, am_b1, am_ts, am_tn, am_then_some, List.cons_append, List.nil_append, ne_eq, iI_lit, iI_add, iI_sub, iI_mul, iI_neg, iI_lt, iI_le, iI_eq, iI_in, iI_clz, dI_ap, dI_wr, setR_s, wE_R, setR_2, setR_n, setR_o, updI_s, updI_n, updI_2, tl_0, tl_1, tl_2, tl_3, tl_4, tl_5, tl_6, tl_7, tl_8, tl_9, tl_10, tl_11, tl_12, tl_13, tl_14, tl_15, tl_16, tn_3, tn_5, tn_13, tn_21, tn_29, tn_33, tn_37, tn_41, tn_45, tn_49, tn_53, tn_57, tn_61, tn_40, tn_p, tn_0, true_and, and_true, sk_0, sk_1, sk_2, sl_2, sk_3, sl_3, sk_4, sl_4, sk_5, sl_5, sk_6, sl_6, sk_7, sl_7, sk_8, sl_8, sk_9, sl_9, sk_10, sl_10, sk_11, sl_11, sk_12, sl_12, sk_13, sk_14, sl_14, sk_15, sk_40, sk_41, sl_41, sk_330, sl_330, sk_355, sk_356, sl_356, sk_357, sl_357, sk_358, sl_358, sk_359, sl_359, sk_360, sl_360, sk_361, sk_362, sl_362, sk_363, sk_376, sk_377, sl_377, sk_378, sk_379, sl_379, sk_380, sl_380, sk_381, sl_381, sk_382, sl_382, sk_383, sl_383, sk_384, sl_384, sk_385, sl_385, sk_386, sl_386, sk_387, sl_387, sk_388, sl_388, sk_389, sl_389, sk_390, sl_390, sk_391, sl_391, sk_392, sl_392, sk_393, sl_393, sk_394, sl_394, sr_0_0, sr_0_1, sr_0_2, sr_0_3, sr_0_4, sr_0_5, sr_0_6, sr_0_7, sr_0_8, sr_0_9, sr_1_0, sr_1_1, sr_1_2, sr_13_0, sr_15_0, sr_15_2, sr_40_0, sr_355_0, sr_355_1, sr_355_2, sr_355_3, sr_355_4, sr_355_5, sr_361_2, sr_361_5, sr_361_6, sr_363_0, sr_363_1, sr_376_0, sr_376_2, sr_378_0, sr_378_1, sr_378_2, sr_378_4, sr_378_8, sr_378_10, sr_378_11, sr_378_12, sr_378_14, sr_378_20, sr_378_21, sr_378_22, sr_378_23, sr_378_24, sr_378_25, sr_378_26, am_vs, am_lg28.k, K1, P4]
            repeat (first | rw [if_pos (by omega)] | rw [if_neg (by omega)])
            exact ih) (k := 0) (x := E) (by omega) ⟨fun _ _ => rfl, hG.2.2.2.1.1, o, n, xx, m1, m2⟩
        obtain ⟨nk, xk, f4, f5⟩ := f4
        have cg := dyE_cg (E := E) (F := F) (fun b hb => f1 b (by omega)) m
        have R2 := r_days (d := 4) (E := F) hx (by unfold aI; rw [f1 383 (by omega), f1 378 (by omega)]; exact hI) (by rw [f1 378 (by omega)]; exact w4) (by rw [f1 383 (by omega)]; exact w2)
        rw [f1 378 (by omega), f1 383 (by omega), if_neg h0, if_neg (fun hx => hx h1), if_neg h2, show ((m : Int)).toNat = m from rfl, cg.2.2] at R2
        refine pub_w ?_ R2 ?_
        · refine mX9_days (d := 7) rfl rfl ?_
          simp (disch := first | omega | simp only [am_ci, am_cr, am_ca]) only [eX9_days_0, eX9_days_1, eX9_days_4, eX9_days_7, eX9_days_10, eX9_days_12, eX9_days_13, eX9_days_14, eX9_days_15, eX9_days_17, eX9_days_20, eX9_days_23, eX9_days_25, eX9_days_26, eX9_days_27, eX9_days_30, eX9_days_33, eX9_days_34, eX9_days_35, eX9_days_37, eX9_days_40, eX9_days_42, eX9_days_43, eX9_days_44, eX9_days_45, eX9_days_46, am_bi, Int.reduceEq, Int.reduceLT, Int.reduceLE, Int.reduceToNat, ite_self, Decidable.not_not, not_true_eq_false, not_false_eq_true, ↓reduceIte, am_ci, am_cr, am_ca, am_b0, am_b1, am_ts, am_tn, am_then_some, List.cons_append, List.nil_append, ne_eq, iI_lit, iI_add, iI_sub, iI_mul, iI_neg, iI_lt, iI_le, iI_eq, iI_in, iI_clz, dI_ap, dI_wr, setR_s, wE_R, setR_2, setR_n, setR_o, updI_s, updI_n, updI_2, tl_0, tl_1, tl_2, tl_3, tl_4, tl_5, tl_6, tl_7, tl_8, tl_9, tl_10, tl_11, tl_12, tl_13, tl_14, tl_15, tl_16, tn_3, tn_5, tn_13, tn_21, tn_29, tn_33, tn_37, tn_41, tn_45, tn_49, tn_53, tn_57, tn_61, tn_40, tn_p, tn_0, true_and, and_true, sk_0, sk_1, sk_2, sl_2, sk_3, sl_3, sk_4, sl_4, sk_5, sl_5, sk_6, sl_6, sk_7, sl_7, sk_8, sl_8, sk_9, sl_9, sk_10, sl_10, sk_11, sl_11, sk_12, sl_12, sk_13, sk_14, sl_14, sk_15, sk_40, sk_41, sl_41, sk_330, sl_330, sk_355, sk_356, sl_356, sk_357, sl_357, sk_358, sl_358, sk_359, sl_359, sk_360, sl_360, sk_361, sk_362, sl_362, sk_363, sk_376, sk_377, sl_377, sk_378, sk_379, sl_379, sk_380, sl_380, sk_381, sl_381, sk_382, sl_382, sk_383, sl_383, sk_384, sl_384, sk_385, sl_385, sk_386, sl_386, sk_387, sl_387, sk_388, sl_388, sk_389, sl_389, sk_390, sl_390, sk_391, sl_391, sk_392, sl_392, sk_393, sl_393, sk_394, sl_394, sr_0_0, sr_0_1, sr_0_2, sr_0_3, sr_0_4, sr_0_5, sr_0_6, sr_0_7, sr_0_8, sr_0_9, sr_1_0, sr_1_1, sr_1_2, sr_13_0, sr_15_0, sr_15_2, sr_40_0, sr_355_0, sr_355_1, sr_355_2, sr_355_3, sr_355_4, sr_355_5, sr_361_2, sr_361_5, sr_361_6, sr_363_0, sr_363_1, sr_376_0, sr_376_2, sr_378_0, sr_378_1, sr_378_2, sr_378_4, sr_378_8, sr_378_10, sr_378_11, sr_378_12, sr_378_14, sr_378_20, sr_378_21, sr_378_22, sr_378_23, sr_378_24, sr_378_25, sr_378_26, am_vs, H, z0, am_lg28.k, HW, h1, c3]
          repeat (first | rw [if_pos (by omega)] | rw [if_neg (by omega)])
          refine he _ ?_
          rw [eX9_days_47]
          simp (disch := first | omega | simp only [am_ci, am_cr, am_ca]) only [eX9_days_48, eX9_days_49, eX9_days_52, eX9_days_53, eX9_days_56, eX9_days_57, eX9_days_60, eX9_days_63, eX9_days_64, eX9_days_65, eX9_days_68, eX9_days_71, eX9_days_72, eX9_days_73, eX9_days_76, eX9_days_79, eX9_days_80, am_bi, Int.reduceEq, Int.reduceLT, Int.reduceLE, Int.reduceToNat, ite_self, Decidable.not_not, not_true_eq_false, not_false_eq_true, ↓reduceIte, am_ci, am_cr, am_ca, am_b0, am_b1, am_ts, am_tn, am_then_some, List.cons_append, List.nil_append, ne_eq, iI_lit, iI_add, iI_sub, iI_mul, iI_neg, iI_lt, iI_le, iI_eq, iI_in, iI_clz, dI_ap, dI_wr, setR_s, wE_R, setR_2, setR_n, setR_o, updI_s, updI_n, updI_2, tl_0, tl_1, tl_2, tl_3, tl_4, tl_5, tl_6, tl_7, tl_8, tl_9, tl_10, tl_11, tl_12, tl_13, tl_14, tl_15, tl_16, tn_3, tn_5, tn_13, tn_21, tn_29, tn_33, tn_37, tn_41, tn_45, tn_49, tn_53, tn_57, tn_61, tn_40, tn_p, tn_0, true_and, and_true, sk_0, sk_1, sk_2, sl_2, sk_3, sl_3, sk_4, sl_4, sk_5, sl_5, sk_6, sl_6, sk_7, sl_7, sk_8, sl_8, sk_9, sl_9, sk_10, sl_10, sk_11, sl_11, sk_12, sl_12, sk_13, sk_14, sl_14, sk_15, sk_40, sk_41, sl_41, sk_330, sl_330, sk_355, sk_356, sl_356, sk_357, sl_357, sk_358, sl_358, sk_359, sl_359, sk_360, sl_360, sk_361, sk_362, sl_362, sk_363, sk_376, sk_377, sl_377, sk_378, sk_379, sl_379, sk_380, sl_380, sk_381, sl_381, sk_382, sl_382, sk_383, sl_383, sk_384, sl_384, sk_385, sl_385, sk_386, sl_386, sk_387, sl_387, sk_388, sl_388, sk_389, sl_389, sk_390, sl_390, sk_391, sl_391, sk_392, sl_392, sk_393, sl_393, sk_394, sl_394, sr_0_0, sr_0_1, sr_0_2, sr_0_3, sr_0_4, sr_0_5, sr_0_6, sr_0_7, sr_0_8, sr_0_9, sr_1_0, sr_1_1, sr_1_2, sr_13_0, sr_15_0, sr_15_2, sr_40_0, sr_355_0, sr_355_1, sr_355_2, sr_355_3, sr_355_4, sr_355_5, sr_361_2, sr_361_5, sr_361_6, sr_363_0, sr_363_1, sr_376_0, sr_376_2, sr_378_0, sr_378_1, sr_378_2, sr_378_4, sr_378_8, sr_378_10, sr_378_11, sr_378_12, sr_378_14, sr_378_20, sr_378_21, sr_378_22, sr_378_23, sr_378_24, sr_378_25, sr_378_26, am_vs]
          repeat (first | rw [if_pos (by omega)] | rw [if_neg (by omega)])
          trivial
        · refine GG_act hG ⟨?_, Or.inr ⟨?_, ?_⟩⟩ ⟨nk, xk, ?_, ?_, fun _ => ?_⟩ (fun b hb x1 x2 x3 => ?_) (fun i hi => ?_)
          · rw [cg.1 383 (by omega)]; exact lgR_fr f2 (fun b h1 h2 => cg.2.1 b (by omega))
          · rw [cg.1 378 (by omega), dyE_8 (by omega)]; omega
          · rw [cg.1 383 (by omega)]; exact f3
          · rw [cg.1 378 (by omega)]; exact f4
          · rw [cg.1 384 (by omega)]; exact acR_fr f5 (fun b h1 h2 => cg.2.1 b (by omega))
          · rw [cg.1 378 (by omega), dyE_8 (by omega)]; omega
          · by_cases e : b < 378
            · rw [cg.2.1 b e]; exact f1 b hb
            · rw [cg.1 b (by omega), dyE_o x1 x2 x3]
          · rw [cg.1 378 (by omega), dyE_8 hi]
    · rw [if_pos h1] at R
      refine pub_r hG ?_ R
      refine mX9_days (d := 7) rfl rfl ?_
      simp (disch := first | omega | simp only [am_ci, am_cr, am_ca]) only [eX9_days_0, eX9_days_1, eX9_days_4, eX9_days_7, eX9_days_10, eX9_days_12, eX9_days_13, eX9_days_14, eX9_days_15, eX9_days_17, eX9_days_20, eX9_days_23, eX9_days_25, eX9_days_26, eX9_days_27, eX9_days_30, eX9_days_33, eX9_days_34, eX9_days_35, eX9_days_37, eX9_days_40, eX9_days_42, eX9_days_43, eX9_days_44, eX9_days_45, eX9_days_46, am_bi, Int.reduceEq, Int.reduceLT, Int.reduceLE, Int.reduceToNat, ite_self, Decidable.not_not, not_true_eq_false, not_false_eq_true, ↓reduceIte, am_ci, am_cr, am_ca, am_b0, am_b1, am_ts, am_tn, am_then_some, List.cons_append, List.nil_append, ne_eq, iI_lit, iI_add, iI_sub, iI_mul, iI_neg, iI_lt, iI_le, iI_eq, iI_in, iI_clz, dI_ap, dI_wr, setR_s, wE_R, setR_2, setR_n, setR_o, updI_s, updI_n, updI_2, tl_0, tl_1, tl_2, tl_3, tl_4, tl_5, tl_6, tl_7, tl_8, tl_9, tl_10, tl_11, tl_12, tl_13, tl_14, tl_15, tl_16, tn_3, tn_5, tn_13, tn_21, tn_29, tn_33, tn_37, tn_41, tn_45, tn_49, tn_53, tn_57, tn_61, tn_40, tn_p, tn_0, true_and, and_true, sk_0, sk_1, sk_2, sl_2, sk_3, sl_3, sk_4, sl_4, sk_5, sl_5, sk_6, sl_6, sk_7, sl_7, sk_8, sl_8, sk_9, sl_9, sk_10, sl_10, sk_11, sl_11, sk_12, sl_12, sk_13, sk_14, sl_14, sk_15, sk_40, sk_41, sl_41, sk_330, sl_330, sk_355, sk_356, sl_356, sk_357, sl_357, sk_358, sl_358, sk_359, sl_359, sk_360, sl_360, sk_361, sk_362, sl_362, sk_363, sk_376, sk_377, sl_377, sk_378, sk_379, sl_379, sk_380, sl_380, sk_381, sl_381, sk_382, sl_382, sk_383, sl_383, sk_384, sl_384, sk_385, sl_385, sk_386, sl_386, sk_387, sl_387, sk_388, sl_388, sk_389, sl_389, sk_390, sl_390, sk_391, sl_391, sk_392, sl_392, sk_393, sl_393, sk_394, sl_394, sr_0_0, sr_0_1, sr_0_2, sr_0_3, sr_0_4, sr_0_5, sr_0_6, sr_0_7, sr_0_8, sr_0_9, sr_1_0, sr_1_1, sr_1_2, sr_13_0, sr_15_0, sr_15_2, sr_40_0, sr_355_0, sr_355_1, sr_355_2, sr_355_3, sr_355_4, sr_355_5, sr_361_2, sr_361_5, sr_361_6, sr_363_0, sr_363_1, sr_376_0, sr_376_2, sr_378_0, sr_378_1, sr_378_2, sr_378_4, sr_378_8, sr_378_10, sr_378_11, sr_378_12, sr_378_14, sr_378_20, sr_378_21, sr_378_22, sr_378_23, sr_378_24, sr_378_25, sr_378_26, am_vs, H, z0, am_lg28.k, HW, h1]
theorem p_undo {E : Nat → Nat → Int} (hG : GG E) : pub 104 169 [] E := by
  obtain ⟨n, xx, m1, m2, m9⟩ := hG.2.2.2.2.1
  have nb := m2.2.2.2.1
  have e2 := m2.1
  obtain ⟨w1, w2, w3, w4, w5, w6⟩ := gLg_w hG.2.2.2.1
  by_cases h : n = 0
  · have R := r_undo (d := 6) (E := E) (by omega)
    rw [if_pos (by omega)] at R
    refine pub_r hG ?_ R
    refine mX9_undo (d := 7) rfl rfl ?_
    simp (disch := first | omega | simp only [am_ci, am_cr, am_ca]) only [eX9_undo_0, eX9_undo_1, eX9_undo_4, eX9_undo_7, eX9_undo_10, eX9_undo_12, eX9_undo_13, eX9_undo_14, eX9_undo_17, eX9_undo_18, eX9_undo_21, eX9_undo_24, eX9_undo_25, eX9_undo_28, eX9_undo_31, am_bi, Int.reduceEq, Int.reduceLT, Int.reduceLE, Int.reduceToNat, ite_self, Decidable.not_not, not_true_eq_false, not_false_eq_true, ↓reduceIte, am_ci, am_cr, am_ca, am_b0, am_b1, am_ts, am_tn, am_then_some, List.cons_append, List.nil_append, ne_eq, iI_lit, iI_add, iI_sub, iI_mul, iI_neg, iI_lt, iI_le, iI_eq, iI_in, iI_clz, dI_ap, dI_wr, setR_s, wE_R, setR_2, setR_n, setR_o, updI_s, updI_n, updI_2, tl_0, tl_1, tl_2, tl_3, tl_4, tl_5, tl_6, tl_7, tl_8, tl_9, tl_10, tl_11, tl_12, tl_13, tl_14, tl_15, tl_16, tn_3, tn_5, tn_13, tn_21, tn_29, tn_33, tn_37, tn_41, tn_45, tn_49, tn_53, tn_57, tn_61, tn_40, tn_p, tn_0, true_and, and_true, sk_0, sk_1, sk_2, sl_2, sk_3, sl_3, sk_4, sl_4, sk_5, sl_5, sk_6, sl_6, sk_7, sl_7, sk_8, sl_8, sk_9, sl_9, sk_10, sl_10, sk_11, sl_11, sk_12, sl_12, sk_13, sk_14, sl_14, sk_15, sk_40, sk_41, sl_41, sk_330, sl_330, sk_355, sk_356, sl_356, sk_357, sl_357, sk_358, sl_358, sk_359, sl_359, sk_360, sl_360, sk_361, sk_362, sl_362, sk_363, sk_376, sk_377, sl_377, sk_378, sk_379, sl_379, sk_380, sl_380, sk_381, sl_381, sk_382, sl_382, sk_383, sl_383, sk_384, sl_384, sk_385, sl_385, sk_386, sl_386, sk_387, sl_387, sk_388, sl_388, sk_389, sl_389, sk_390, sl_390, sk_391, sl_391, sk_392, sl_392, sk_393, sl_393, sk_394, sl_394, sr_0_0, sr_0_1, sr_0_2, sr_0_3, sr_0_4, sr_0_5, sr_0_6, sr_0_7, sr_0_8, sr_0_9, sr_1_0, sr_1_1, sr_1_2, sr_13_0, sr_15_0, sr_15_2, sr_40_0, sr_355_0, sr_355_1, sr_355_2, sr_355_3, sr_355_4, sr_355_5, sr_361_2, sr_361_5, sr_361_6, sr_363_0, sr_363_1, sr_376_0, sr_376_2, sr_378_0, sr_378_1, sr_378_2, sr_378_4, sr_378_8, sr_378_10, sr_378_11, sr_378_12, sr_378_14, sr_378_20, sr_378_21, sr_378_22, sr_378_23, sr_378_24, sr_378_25, sr_378_26, am_vs, e2]
    repeat (first | rw [if_pos (by omega)] | rw [if_neg (by omega)])
    trivial
  · obtain ⟨E1, x', K1, K2, K3, K4⟩ := c_giveBack (d := 5) m2 (by omega)
    have R := r_undo (d := 6) (E := E1) (by rw [K2 378 (by omega)]; omega)
    rw [K2 378 (by omega), K2 383 (by omega), K2 384 (by omega), if_neg (by omega), m1, show ((n : Int) - 1).toNat = n - 1 by omega, cpT_lr w1.2] at R
    have e2' := K3.1
    have hL1 : E 378 7 = 1 := m9 (by omega)
    refine pub_w ?_ R ?_
    · refine mX9_undo (d := 7) rfl rfl ?_
      have e9 : ((n - 1 : Nat) : Int) = (n : Int) - 1 := by omega
      rw [e9] at e2'
      simp (disch := first | omega | simp only [am_ci, am_cr, am_ca]) only [eX9_undo_0, eX9_undo_1, eX9_undo_4, eX9_undo_7, eX9_undo_10, eX9_undo_12, eX9_undo_13, eX9_undo_14, eX9_undo_17, eX9_undo_18, eX9_undo_21, eX9_undo_24, eX9_undo_25, eX9_undo_28, eX9_undo_31, am_bi, Int.reduceEq, Int.reduceLT, Int.reduceLE, Int.reduceToNat, ite_self, Decidable.not_not, not_true_eq_false, not_false_eq_true, ↓reduceIte, am_ci, am_cr, am_ca, am_b0, am_b1, am_ts, am_tn, am_then_some, List.cons_append, List.nil_append, ne_eq, iI_lit, iI_add, iI_sub, iI_mul, iI_neg, iI_lt, iI_le, iI_eq, iI_in, iI_clz, dI_ap, dI_wr, setR_s, wE_R, setR_2, setR_n, setR_o, updI_s, updI_n, updI_2, tl_0, tl_1, tl_2, tl_3, tl_4, tl_5, tl_6, tl_7, tl_8, tl_9, tl_10, tl_11, tl_12, tl_13, tl_14, tl_15, tl_16, tn_3, tn_5, tn_13, tn_21, tn_29, tn_33, tn_37, tn_41, tn_45, tn_49, tn_53, tn_57, tn_61, tn_40, tn_p, tn_0, true_and, and_true, sk_0, sk_1, sk_2, sl_2, sk_3, sl_3, sk_4, sl_4, sk_5, sl_5, sk_6, sl_6, sk_7, sl_7, sk_8, sl_8, sk_9, sl_9, sk_10, sl_10, sk_11, sl_11, sk_12, sl_12, sk_13, sk_14, sl_14, sk_15, sk_40, sk_41, sl_41, sk_330, sl_330, sk_355, sk_356, sl_356, sk_357, sl_357, sk_358, sl_358, sk_359, sl_359, sk_360, sl_360, sk_361, sk_362, sl_362, sk_363, sk_376, sk_377, sl_377, sk_378, sk_379, sl_379, sk_380, sl_380, sk_381, sl_381, sk_382, sl_382, sk_383, sl_383, sk_384, sl_384, sk_385, sl_385, sk_386, sl_386, sk_387, sl_387, sk_388, sl_388, sk_389, sl_389, sk_390, sl_390, sk_391, sl_391, sk_392, sl_392, sk_393, sl_393, sk_394, sl_394, sr_0_0, sr_0_1, sr_0_2, sr_0_3, sr_0_4, sr_0_5, sr_0_6, sr_0_7, sr_0_8, sr_0_9, sr_1_0, sr_1_1, sr_1_2, sr_13_0, sr_15_0, sr_15_2, sr_40_0, sr_355_0, sr_355_1, sr_355_2, sr_355_3, sr_355_4, sr_355_5, sr_361_2, sr_361_5, sr_361_6, sr_363_0, sr_363_1, sr_376_0, sr_376_2, sr_378_0, sr_378_1, sr_378_2, sr_378_4, sr_378_8, sr_378_10, sr_378_11, sr_378_12, sr_378_14, sr_378_20, sr_378_21, sr_378_22, sr_378_23, sr_378_24, sr_378_25, sr_378_26, am_vs, e2, K1, e2']
      repeat (first | rw [if_pos (by omega)] | rw [if_neg (by omega)])
      trivial
    · have o5 := (m2.2.2.2.2 0 (by omega)).2
      rw [show n - 1 - 0 = n - 1 by omega] at o5
      generalize hE2 : setR (setR E1 378 (updI (E 378) 9 ((n : Int) - 1))) 383 (lrT (E 384) (85 * (n - 1))) = E2
      have a8 : E2 378 = updI (E 378) 9 ((n : Int) - 1) := by rw [← hE2, setR_n (by omega), setR_s]
      have o : ∀ b, b ≠ 378 → b ≠ 383 → E2 b = E1 b := fun b x1 x2 => by rw [← hE2, setR_n x2, setR_n x1]
      have a3 : E2 383 = lrT (E 384) (85 * (n - 1)) := by rw [← hE2, setR_s]
      refine GG_act hG ⟨?_, Or.inr ⟨?_, ?_⟩⟩ ⟨n - 1, x', ?_, ?_, fun _ => ?_⟩ (fun b hb x1 x2 x3 => by rw [o b x1 x2, K2 b (by omega)]) (fun i hi => by rw [a8, updI_n hi])
      · rw [a3]; exact lgR_fr K4 (fun b h1 h2 => o b (by omega) (by omega))
      · rw [a8, updI_n (by omega)]; exact hL1
      · rw [a3]; exact o5
      · rw [a8, updI_s]; omega
      · rw [o 384 (by omega) (by omega), K2 384 (by omega)]
        exact acR_fr K3 (fun b h1 h2 => o b (by omega) (by omega))
      · rw [a8, updI_n (by omega)]; exact hL1
theorem p_image {x : Int} {E : Nat → Nat → Int} (hx : i32 x) (hG : GG E) : pub 123 198 [.int (iI x)] E := by
  obtain ⟨w1, w2, w3, w4, w5, w6⟩ := gLg_w hG.2.2.2.1
  have H := q_isNone (d := 6) hG
  have HW : am_sem 7 92 [.int (iI x), .int (iI 0), .int (iI 1)] am_S0 (dI E) = _ := c_within (d := 6) (x := x) (y := 0) (z := 1) (S := am_S0) (D := dI E) hx (by omega) (by omega)
  by_cases h : 0 ≤ x ∧ x ≤ 1
  · by_cases h0 : E 378 7 = 0
    · have R := r_image (d := 5) (E := E) hx w4
      have z0 := w6.mp h0
      rw [if_neg (fun hx => hx h), if_pos h0] at R
      refine pub_r hG ?_ R
      refine mX9_image (d := 7) rfl rfl ?_
      simp (disch := first | omega | simp only [am_ci, am_cr, am_ca]) only [eX9_image_0, eX9_image_1, eX9_image_2, eX9_image_3, eX9_image_6, eX9_image_9, eX9_image_11, eX9_image_12, eX9_image_13, eX9_image_16, eX9_image_19, eX9_image_22, eX9_image_24, eX9_image_25, eX9_image_26, eX9_image_29, eX9_image_30, eX9_image_31, eX9_image_32, eX9_image_35, eX9_image_38, eX9_image_39, am_bi, Int.reduceEq, Int.reduceLT, Int.reduceLE, Int.reduceToNat, ite_self, Decidable.not_not, not_true_eq_false, not_false_eq_true, ↓reduceIte, am_ci, am_cr, am_ca, am_b0, am_b1, am_ts, am_tn, am_then_some, List.cons_append, List.nil_append, ne_eq, iI_lit, iI_add, iI_sub, iI_mul, iI_neg, iI_lt, iI_le, iI_eq, iI_in, iI_clz, dI_ap, dI_wr, setR_s, wE_R, setR_2, setR_n, setR_o, updI_s, updI_n, updI_2, tl_0, tl_1, tl_2, tl_3, tl_4, tl_5, tl_6, tl_7, tl_8, tl_9, tl_10, tl_11, tl_12, tl_13, tl_14, tl_15, tl_16, tn_3, tn_5, tn_13, tn_21, tn_29, tn_33, tn_37, tn_41, tn_45, tn_49, tn_53, tn_57, tn_61, tn_40, tn_p, tn_0, true_and, and_true, sk_0, sk_1, sk_2, sl_2, sk_3, sl_3, sk_4, sl_4, sk_5, sl_5, sk_6, sl_6, sk_7, sl_7, sk_8, sl_8, sk_9, sl_9, sk_10, sl_10, sk_11, sl_11, sk_12, sl_12, sk_13, sk_14, sl_14, sk_15, sk_40, sk_41, sl_41, sk_330, sl_330, sk_355, sk_356, sl_356, sk_357, sl_357, sk_358, sl_358, sk_359, sl_359, sk_360, sl_360, sk_361, sk_362, sl_362, sk_363, sk_376, sk_377, sl_377, sk_378, sk_379, sl_379, sk_380, sl_380, sk_381, sl_381, sk_382, sl_382, sk_383, sl_383, sk_384, sl_384, sk_385, sl_385, sk_386, sl_386, sk_387, sl_387, sk_388, sl_388, sk_389, sl_389, sk_390, sl_390, sk_391, sl_391, sk_392, sl_392, sk_393, sl_393, sk_394, sl_394, sr_0_0, sr_0_1, sr_0_2, sr_0_3, sr_0_4, sr_0_5, sr_0_6, sr_0_7, sr_0_8, sr_0_9, sr_1_0, sr_1_1, sr_1_2, sr_13_0, sr_15_0, sr_15_2, sr_40_0, sr_355_0, sr_355_1, sr_355_2, sr_355_3, sr_355_4, sr_355_5, sr_361_2, sr_361_5, sr_361_6, sr_363_0, sr_363_1, sr_376_0, sr_376_2, sr_378_0, sr_378_1, sr_378_2, sr_378_4, sr_378_8, sr_378_10, sr_378_11, sr_378_12, sr_378_14, sr_378_20, sr_378_21, sr_378_22, sr_378_23, sr_378_24, sr_378_25, sr_378_26, am_vs, HW, h, H, z0, am_lg28.k]
    · obtain ⟨k, rfl⟩ := Int.eq_ofNat_of_zero_le h.1
      have z0 : ¬ E 383 0 = 0 := fun h => h0 (w6.mpr h)
      have o := oT_of hG (x := 0) (Or.inr (Or.inr (Or.inr (Or.inr h0))))
      have hi := am_lgI k (by omega)
      have ri := hi.2
      have HB := c_become (d := 6) (a := 331 + 12 * k) (b := 28) (E := E) hi.1 am_lg28 (by omega)
      have fb := bcE_fr E (331 + 12 * k) 28
      have R := r_image (d := 5) (E := bcE E (331 + 12 * k) 28) hx (by rw [fb 378 (by omega)]; exact w4)
      rw [if_neg (fun hx => hx h), fb 378 (by omega), if_neg h0, fb 383 (by omega), fb 385 (by omega), fb 386 (by omega), show ((k : Int)).toNat = k from rfl] at R
      refine pub_w ?_ R ?_
      · refine mX9_image (d := 7) rfl rfl ?_
        simp (disch := first | omega | simp only [am_ci, am_cr, am_ca]) only [eX9_image_0, eX9_image_1, eX9_image_2, eX9_image_3, eX9_image_6, eX9_image_9, eX9_image_11, eX9_image_12, eX9_image_13, eX9_image_16, eX9_image_19, eX9_image_22, eX9_image_24, eX9_image_25, eX9_image_26, eX9_image_29, eX9_image_30, eX9_image_31, eX9_image_32, eX9_image_35, eX9_image_38, eX9_image_39, am_bi, Int.reduceEq, Int.reduceLT, Int.reduceLE, Int.reduceToNat, ite_self, Decidable.not_not, not_true_eq_false, not_false_eq_true, ↓reduceIte, am_ci, am_cr, am_ca, am_b0, am_b1, am_ts, am_tn, am_then_some, List.cons_append, List.nil_append, ne_eq, iI_lit, iI_add, iI_sub, iI_mul, iI_neg, iI_lt, iI_le, iI_eq, iI_in, iI_clz, dI_ap, dI_wr, setR_s, wE_R, setR_2, setR_n, setR_o, updI_s, updI_n, updI_2, tl_0, tl_1, tl_2, tl_3, tl_4, tl_5, tl_6, tl_7, tl_8, tl_9, tl_10, tl_11, tl_12, tl_13, tl_14, tl_15, tl_16, tn_3, tn_5, tn_13, tn_21, tn_29, tn_33, tn_37, tn_41, tn_45, tn_49, tn_53, tn_57, tn_61, tn_40, tn_p, tn_0, true_and, and_true, sk_0, sk_1, sk_2, sl_2, sk_3, sl_3, sk_4, sl_4, sk_5, sl_5, sk_6, sl_6, sk_7, sl_7, sk_8, sl_8, sk_9, sl_9, sk_10, sl_10, sk_11, sl_11, sk_12, sl_12, sk_13, sk_14, sl_14, sk_15, sk_40, sk_41, sl_41, sk_330, sl_330, sk_355, sk_356, sl_356, sk_357, sl_357, sk_358, sl_358, sk_359, sl_359, sk_360, sl_360, sk_361, sk_362, sl_362, sk_363, sk_376, sk_377, sl_377, sk_378, sk_379, sl_379, sk_380, sl_380, sk_381, sl_381, sk_382, sl_382, sk_383, sl_383, sk_384, sl_384, sk_385, sl_385, sk_386, sl_386, sk_387, sl_387, sk_388, sl_388, sk_389, sl_389, sk_390, sl_390, sk_391, sl_391, sk_392, sl_392, sk_393, sl_393, sk_394, sl_394, sr_0_0, sr_0_1, sr_0_2, sr_0_3, sr_0_4, sr_0_5, sr_0_6, sr_0_7, sr_0_8, sr_0_9, sr_1_0, sr_1_1, sr_1_2, sr_13_0, sr_15_0, sr_15_2, sr_40_0, sr_355_0, sr_355_1, sr_355_2, sr_355_3, sr_355_4, sr_355_5, sr_361_2, sr_361_5, sr_361_6, sr_363_0, sr_363_1, sr_376_0, sr_376_2, sr_378_0, sr_378_1, sr_378_2, sr_378_4, sr_378_8, sr_378_10, sr_378_11, sr_378_12, sr_378_14, sr_378_20, sr_378_21, sr_378_22, sr_378_23, sr_378_24, sr_378_25, sr_378_26, am_vs, HW, h, H, z0, am_lg28.k, ri, hi.1.k, HB, true_or]
      · obtain ⟨g1, g2, g3, g4, g5, g6, g7, g8⟩ := hG
        generalize hE2 : setR (setR (bcE E (331 + 12 * k) 28) 385 (cpT (E 383) 0 (E 385) (85 * k) 85)) 386 (updI (E 386) k 1) = E2
        have oo : ∀ b, (b < 331 + 12 * k ∨ 331 + 12 * k + 11 < b) → b ≠ 385 → b ≠ 386 → E2 b = E b := fun b hb x1 x2 => by rw [← hE2, setR_n x2, setR_n x1, fb b hb]
        have a5 : E2 385 = cpT (E 383) 0 (E 385) (85 * k) 85 := by rw [← hE2, setR_n (by omega), setR_s]
        have a6 : E2 386 = updI (E 386) k 1 := by rw [← hE2, setR_s]
        have a8 : E2 378 = E 378 := oo 378 (by omega) (by omega) (by omega)
        refine ⟨gRow_c g1 (fun b hb => oo b (by omega) (by omega) (by omega)), gTap_c g2 (by rw [a8]) (by rw [oo 13 (by omega) (by omega) (by omega)]) (oo 14 (by omega) (by omega) (by omega)) (oo 382 (by omega) (by omega) (by omega)), gFlt_c g3 (oo 0 (by omega) (by omega) (by omega)) (by rw [a8]) (by rw [a8]), gLg_c g4 (fun b _ _ => oo b (by omega) (by omega) (by omega)) (oo 383 (by omega) (by omega) (by omega)) (by rw [a8]), gAct_c g5 (fun b _ _ => oo b (by omega) (by omega) (by omega)) (oo 384 (by omega) (by omega) (by omega)) (by rw [a8]) (by rw [a8]), fun q hq => ?_, gTrc_c g7 (by rw [oo 376 (by omega) (by omega) (by omega)]) (oo 377 (by omega) (by omega) (by omega)) (by rw [a8]) (oo 387 (by omega) (by omega) (by omega)), gScr_c g8 (oo 388 (by omega) (by omega) (by omega)) (oo 389 (by omega) (by omega) (by omega))⟩
        rw [a5, a6, a8]
        by_cases e : q = k
        · subst e
          rw [updI_s, lrT_cp o.1.2]
          refine Or.inr ⟨rfl, by omega, ?_, o⟩
          exact lgR_fr (lgR_bc (a := 331 + 12 * q) g4.1) (fun b h1 h2 => by rw [← hE2, setR_n (by omega), setR_n (by omega)])
        · rw [updI_n e, lrT_cn (by omega), oo (331 + 12 * q) (by omega) (by omega) (by omega)]
          rcases g6 q hq with y | ⟨y1, y2, y3, y4⟩
          · exact Or.inl y
          · exact Or.inr ⟨y1, y2, lgR_fr y3 (fun b h1 h2 => oo b (by omega) (by omega) (by omega)), y4⟩
  · have R := r_image (d := 5) (E := E) hx w4
    rw [if_pos h] at R
    refine pub_r hG ?_ R
    refine mX9_image (d := 7) rfl rfl ?_
    simp (disch := first | omega | simp only [am_ci, am_cr, am_ca]) only [eX9_image_0, eX9_image_1, eX9_image_2, eX9_image_3, eX9_image_6, eX9_image_9, eX9_image_11, eX9_image_12, eX9_image_13, eX9_image_16, eX9_image_19, eX9_image_22, eX9_image_24, eX9_image_25, eX9_image_26, eX9_image_29, eX9_image_30, eX9_image_31, eX9_image_32, eX9_image_35, eX9_image_38, eX9_image_39, am_bi, Int.reduceEq, Int.reduceLT, Int.reduceLE, Int.reduceToNat, ite_self, Decidable.not_not, not_true_eq_false, not_false_eq_true, ↓reduceIte, am_ci, am_cr, am_ca, am_b0, am_b1, am_ts, am_tn, am_then_some, List.cons_append, List.nil_append, ne_eq, iI_lit, iI_add, iI_sub, iI_mul, iI_neg, iI_lt, iI_le, iI_eq, iI_in, iI_clz, dI_ap, dI_wr, setR_s, wE_R, setR_2, setR_n, setR_o, updI_s, updI_n, updI_2, tl_0, tl_1, tl_2, tl_3, tl_4, tl_5, tl_6, tl_7, tl_8, tl_9, tl_10, tl_11, tl_12, tl_13, tl_14, tl_15, tl_16, tn_3, tn_5, tn_13, tn_21, tn_29, tn_33, tn_37, tn_41, tn_45, tn_49, tn_53, tn_57, tn_61, tn_40, tn_p, tn_0, true_and, and_true, sk_0, sk_1, sk_2, sl_2, sk_3, sl_3, sk_4, sl_4, sk_5, sl_5, sk_6, sl_6, sk_7, sl_7, sk_8, sl_8, sk_9, sl_9, sk_10, sl_10, sk_11, sl_11, sk_12, sl_12, sk_13, sk_14, sl_14, sk_15, sk_40, sk_41, sl_41, sk_330, sl_330, sk_355, sk_356, sl_356, sk_357, sl_357, sk_358, sl_358, sk_359, sl_359, sk_360, sl_360, sk_361, sk_362, sl_362, sk_363, sk_376, sk_377, sl_377, sk_378, sk_379, sl_379, sk_380, sl_380, sk_381, sl_381, sk_382, sl_382, sk_383, sl_383, sk_384, sl_384, sk_385, sl_385, sk_386, sl_386, sk_387, sl_387, sk_388, sl_388, sk_389, sl_389, sk_390, sl_390, sk_391, sl_391, sk_392, sl_392, sk_393, sl_393, sk_394, sl_394, sr_0_0, sr_0_1, sr_0_2, sr_0_3, sr_0_4, sr_0_5, sr_0_6, sr_0_7, sr_0_8, sr_0_9, sr_1_0, sr_1_1, sr_1_2, sr_13_0, sr_15_0, sr_15_2, sr_40_0, sr_355_0, sr_355_1, sr_355_2, sr_355_3, sr_355_4, sr_355_5, sr_361_2, sr_361_5, sr_361_6, sr_363_0, sr_363_1, sr_376_0, sr_376_2, sr_378_0, sr_378_1, sr_378_2, sr_378_4, sr_378_8, sr_378_10, sr_378_11, sr_378_12, sr_378_14, sr_378_20, sr_378_21, sr_378_22, sr_378_23, sr_378_24, sr_378_25, sr_378_26, am_vs, HW, h]
theorem p_restore {x : Int} {E : Nat → Nat → Int} (hx : i32 x) (hG : GG E) : pub 124 199 [.int (iI x)] E := by
  obtain ⟨w1, w2, w3, w4, w5, w6⟩ := gLg_w hG.2.2.2.1
  have g6 := hG.2.2.2.2.2.1
  have hk6 : ∀ k, k < 2 → 0 ≤ E 386 k ∧ E 386 k ≤ 1 := fun k hk => by rcases g6 k hk with ⟨a, -⟩ | ⟨a, -⟩ <;> omega
  have HW : am_sem 7 92 [.int (iI x), .int (iI 0), .int (iI 1)] am_S0 (dI E) = _ := c_within (d := 6) (x := x) (y := 0) (z := 1) (S := am_S0) (D := dI E) hx (by omega) (by omega)
  by_cases h : 0 ≤ x ∧ x ≤ 1
  · obtain ⟨k, rfl⟩ := Int.eq_ofNat_of_zero_le h.1
    have hi := am_lgI k (by omega)
    have ri := hi.2
    rcases g6 k (by omega) with ⟨y1, y2⟩ | ⟨y1, y2, y3, y4⟩
    · have R := r_restore (d := 5) (E := E) hx hk6
      have H := c_isNone (d := 6) (a := 331 + 12 * k) (E := E) hi.1 (by omega)
      rw [if_pos y2] at H
      rw [if_neg (fun hx => hx h), show ((k : Int)).toNat = k from rfl, if_pos y1] at R
      refine pub_r hG ?_ R
      refine mX9_restore (d := 7) rfl rfl ?_
      simp (disch := first | omega | simp only [am_ci, am_cr, am_ca]) only [eX9_restore_0, eX9_restore_1, eX9_restore_2, eX9_restore_3, eX9_restore_6, eX9_restore_9, eX9_restore_11, eX9_restore_12, eX9_restore_13, eX9_restore_16, eX9_restore_17, eX9_restore_18, eX9_restore_21, eX9_restore_24, eX9_restore_26, eX9_restore_27, eX9_restore_28, eX9_restore_31, eX9_restore_32, eX9_restore_35, eX9_restore_36, eX9_restore_37, eX9_restore_40, eX9_restore_41, eX9_restore_44, eX9_restore_47, eX9_restore_48, am_bi, Int.reduceEq, Int.reduceLT, Int.reduceLE, Int.reduceToNat, ite_self, Decidable.not_not, not_true_eq_false, not_false_eq_true, ↓reduceIte, am_ci, am_cr, am_ca, am_b0, am_b1, am_ts, am_tn, am_then_some, List.cons_append, List.nil_append, ne_eq, iI_lit, iI_add, iI_sub, iI_mul, iI_neg, iI_lt, iI_le, iI_eq, iI_in, iI_clz, dI_ap, dI_wr, setR_s, wE_R, setR_2, setR_n, setR_o, updI_s, updI_n, updI_2, tl_0, tl_1, tl_2, tl_3, tl_4, tl_5, tl_6, tl_7, tl_8, tl_9, tl_10, tl_11, tl_12, tl_13, tl_14, tl_15, tl_16, tn_3, tn_5, tn_13, tn_21, tn_29, tn_33, tn_37, tn_41, tn_45, tn_49, tn_53, tn_57, tn_61, tn_40, tn_p, tn_0, true_and, and_true, sk_0, sk_1, sk_2, sl_2, sk_3, sl_3, sk_4, sl_4, sk_5, sl_5, sk_6, sl_6, sk_7, sl_7, sk_8, sl_8, sk_9, sl_9, sk_10, sl_10, sk_11, sl_11, sk_12, sl_12, sk_13, sk_14, sl_14, sk_15, sk_40, sk_41, sl_41, sk_330, sl_330, sk_355, sk_356, sl_356, sk_357, sl_357, sk_358, sl_358, sk_359, sl_359, sk_360, sl_360, sk_361, sk_362, sl_362, sk_363, sk_376, sk_377, sl_377, sk_378, sk_379, sl_379, sk_380, sl_380, sk_381, sl_381, sk_382, sl_382, sk_383, sl_383, sk_384, sl_384, sk_385, sl_385, sk_386, sl_386, sk_387, sl_387, sk_388, sl_388, sk_389, sl_389, sk_390, sl_390, sk_391, sl_391, sk_392, sl_392, sk_393, sl_393, sk_394, sl_394, sr_0_0, sr_0_1, sr_0_2, sr_0_3, sr_0_4, sr_0_5, sr_0_6, sr_0_7, sr_0_8, sr_0_9, sr_1_0, sr_1_1, sr_1_2, sr_13_0, sr_15_0, sr_15_2, sr_40_0, sr_355_0, sr_355_1, sr_355_2, sr_355_3, sr_355_4, sr_355_5, sr_361_2, sr_361_5, sr_361_6, sr_363_0, sr_363_1, sr_376_0, sr_376_2, sr_378_0, sr_378_1, sr_378_2, sr_378_4, sr_378_8, sr_378_10, sr_378_11, sr_378_12, sr_378_14, sr_378_20, sr_378_21, sr_378_22, sr_378_23, sr_378_24, sr_378_25, sr_378_26, am_vs, HW, h, ri, hi.1.k, H, true_or]
    · have e0 : E (331 + 12 * k) 0 = lrT (E 385) (85 * k) 0 := y3.1.1.1
      have p2 := y4.2.2.2.2.2.2.2
      have p6 := y4.1.1.1.2.1
      have H := c_isNone (d := 6) (a := 331 + 12 * k) (E := E) hi.1 (by omega)
      rw [if_neg (by omega)] at H
      have HB := c_become (d := 6) (a := 28) (b := 331 + 12 * k) (E := E) am_lg28 hi.1 (by omega)
      have fb := bcE_fr E 28 (331 + 12 * k)
      have o40 : bcE E 28 (331 + 12 * k) 40 = E 40 := fb 40 (by omega)
      have HF : am_sem 7 1 [.ref 40] am_S0 (dI (bcE E 28 (331 + 12 * k))) = some (none, am_S0, dI (setR (bcE E 28 (331 + 12 * k)) 40 (updI (E 40) 2 0))) := by
        refine mX0_forget (d := 6) rfl rfl ?_
        simp (disch := first | omega | simp only [am_ci, am_cr, am_ca]) only [eX0_forget_0, eX0_forget_1, eX0_forget_2, eX0_forget_5, am_bi, Int.reduceEq, Int.reduceLT, Int.reduceLE, Int.reduceToNat, ite_self, Decidable.not_not, not_true_eq_false, not_false_eq_true, ↓reduceIte, am_ci, am_cr, am_ca, am_b0, am_b1, am_ts, am_tn, am_then_some, List.cons_append, List.nil_append, ne_eq, iI_lit, iI_add, iI_sub, iI_mul, iI_neg, iI_lt, iI_le, iI_eq, iI_in, iI_clz, dI_ap, dI_wr, setR_s, wE_R, setR_2, setR_n, setR_o, updI_s, updI_n, updI_2, tl_0, tl_1, tl_2, tl_3, tl_4, tl_5, tl_6, tl_7, tl_8, tl_9, tl_10, tl_11, tl_12, tl_13, tl_14, tl_15, tl_16, tn_3, tn_5, tn_13, tn_21, tn_29, tn_33, tn_37, tn_41, tn_45, tn_49, tn_53, tn_57, tn_61, tn_40, tn_p, tn_0, true_and, and_true, sk_0, sk_1, sk_2, sl_2, sk_3, sl_3, sk_4, sl_4, sk_5, sl_5, sk_6, sl_6, sk_7, sl_7, sk_8, sl_8, sk_9, sl_9, sk_10, sl_10, sk_11, sl_11, sk_12, sl_12, sk_13, sk_14, sl_14, sk_15, sk_40, sk_41, sl_41, sk_330, sl_330, sk_355, sk_356, sl_356, sk_357, sl_357, sk_358, sl_358, sk_359, sl_359, sk_360, sl_360, sk_361, sk_362, sl_362, sk_363, sk_376, sk_377, sl_377, sk_378, sk_379, sl_379, sk_380, sl_380, sk_381, sl_381, sk_382, sl_382, sk_383, sl_383, sk_384, sl_384, sk_385, sl_385, sk_386, sl_386, sk_387, sl_387, sk_388, sl_388, sk_389, sl_389, sk_390, sl_390, sk_391, sl_391, sk_392, sl_392, sk_393, sl_393, sk_394, sl_394, sr_0_0, sr_0_1, sr_0_2, sr_0_3, sr_0_4, sr_0_5, sr_0_6, sr_0_7, sr_0_8, sr_0_9, sr_1_0, sr_1_1, sr_1_2, sr_13_0, sr_15_0, sr_15_2, sr_40_0, sr_355_0, sr_355_1, sr_355_2, sr_355_3, sr_355_4, sr_355_5, sr_361_2, sr_361_5, sr_361_6, sr_363_0, sr_363_1, sr_376_0, sr_376_2, sr_378_0, sr_378_1, sr_378_2, sr_378_4, sr_378_8, sr_378_10, sr_378_11, sr_378_12, sr_378_14, sr_378_20, sr_378_21, sr_378_22, sr_378_23, sr_378_24, sr_378_25, sr_378_26, am_vs, o40]
      have R := r_restore (d := 5) (E := setR (bcE E 28 (331 + 12 * k)) 40 (updI (E 40) 2 0)) hx (by rw [setR_n (by omega), fb 386 (by omega)]; exact hk6)
      simp (disch := omega) only [setR_n] at R
      rw [if_neg (fun hx => hx h), show ((k : Int)).toNat = k from rfl, fb 386 (by omega), if_neg (by omega), fb 383 (by omega), fb 385 (by omega), fb 378 (by omega), cpT_lr w1.2] at R
      refine pub_w ?_ R ?_
      · refine mX9_restore (d := 7) rfl rfl ?_
        simp (disch := first | omega | simp only [am_ci, am_cr, am_ca]) only [eX9_restore_0, eX9_restore_1, eX9_restore_2, eX9_restore_3, eX9_restore_6, eX9_restore_9, eX9_restore_11, eX9_restore_12, eX9_restore_13, eX9_restore_16, eX9_restore_17, eX9_restore_18, eX9_restore_21, eX9_restore_24, eX9_restore_26, eX9_restore_27, eX9_restore_28, eX9_restore_31, eX9_restore_32, eX9_restore_35, eX9_restore_36, eX9_restore_37, eX9_restore_40, eX9_restore_41, eX9_restore_44, eX9_restore_47, eX9_restore_48, am_bi, Int.reduceEq, Int.reduceLT, Int.reduceLE, Int.reduceToNat, ite_self, Decidable.not_not, not_true_eq_false, not_false_eq_true, ↓reduceIte, am_ci, am_cr, am_ca, am_b0, am_b1, am_ts, am_tn, am_then_some, List.cons_append, List.nil_append, ne_eq, iI_lit, iI_add, iI_sub, iI_mul, iI_neg, iI_lt, iI_le, iI_eq, iI_in, iI_clz, dI_ap, dI_wr, setR_s, wE_R, setR_2, setR_n, setR_o, updI_s, updI_n, updI_2, tl_0, tl_1, tl_2, tl_3, tl_4, tl_5, tl_6, tl_7, tl_8, tl_9, tl_10, tl_11, tl_12, tl_13, tl_14, tl_15, tl_16, tn_3, tn_5, tn_13, tn_21, tn_29, tn_33, tn_37, tn_41, tn_45, tn_49, tn_53, tn_57, tn_61, tn_40, tn_p, tn_0, true_and, and_true, sk_0, sk_1, sk_2, sl_2, sk_3, sl_3, sk_4, sl_4, sk_5, sl_5, sk_6, sl_6, sk_7, sl_7, sk_8, sl_8, sk_9, sl_9, sk_10, sl_10, sk_11, sl_11, sk_12, sl_12, sk_13, sk_14, sl_14, sk_15, sk_40, sk_41, sl_41, sk_330, sl_330, sk_355, sk_356, sl_356, sk_357, sl_357, sk_358, sl_358, sk_359, sl_359, sk_360, sl_360, sk_361, sk_362, sl_362, sk_363, sk_376, sk_377, sl_377, sk_378, sk_379, sl_379, sk_380, sl_380, sk_381, sl_381, sk_382, sl_382, sk_383, sl_383, sk_384, sl_384, sk_385, sl_385, sk_386, sl_386, sk_387, sl_387, sk_388, sl_388, sk_389, sl_389, sk_390, sl_390, sk_391, sl_391, sk_392, sl_392, sk_393, sl_393, sk_394, sl_394, sr_0_0, sr_0_1, sr_0_2, sr_0_3, sr_0_4, sr_0_5, sr_0_6, sr_0_7, sr_0_8, sr_0_9, sr_1_0, sr_1_1, sr_1_2, sr_13_0, sr_15_0, sr_15_2, sr_40_0, sr_355_0, sr_355_1, sr_355_2, sr_355_3, sr_355_4, sr_355_5, sr_361_2, sr_361_5, sr_361_6, sr_363_0, sr_363_1, sr_376_0, sr_376_2, sr_378_0, sr_378_1, sr_378_2, sr_378_4, sr_378_8, sr_378_10, sr_378_11, sr_378_12, sr_378_14, sr_378_20, sr_378_21, sr_378_22, sr_378_23, sr_378_24, sr_378_25, sr_378_26, am_vs, HW, h, ri, hi.1.k, H, true_or, am_lg28.k, HB, HF]
      · generalize hE2 : setR (setR (setR (bcE E 28 (331 + 12 * k)) 40 (updI (E 40) 2 0)) 383 (lrT (E 385) (85 * k))) 378 (updI (E 378) 9 0) = E2
        have a8 : E2 378 = updI (E 378) 9 0 := by rw [← hE2, setR_s]
        have a3 : E2 383 = lrT (E 385) (85 * k) := by rw [← hE2, setR_n (by omega), setR_s]
        have a40 : E2 40 = updI (E 40) 2 0 := by rw [← hE2]; simp (disch := omega) only [setR_n, setR_s]
        have oo : ∀ b, (b < 28 ∨ 39 < b) → b ≠ 40 → b ≠ 378 → b ≠ 383 → E2 b = E b := fun b hb x1 x2 x3 => by rw [← hE2, setR_n x2, setR_n x3, setR_n x1, fb b (by omega)]
        obtain ⟨n, xx, m1, ⟨m2, m3, m4, m5, m6⟩, m9⟩ := hG.2.2.2.2.1
        refine GG_act hG ⟨?_, Or.inr ⟨?_, ?_⟩⟩ ⟨0, xx, ?_, ⟨?_, ?_, m4, by omega, fun i hi => by omega⟩, fun h => by omega⟩ (fun b hb x1 x2 x3 => oo b (by omega) (by omega) x1 x2) (fun i hi => by rw [a8, updI_n hi])
        · rw [a3]; exact lgR_fr (lgR_bc (a := 28) y3) (fun b h1 h2 => by rw [← hE2]; simp (disch := omega) only [setR_n])
        · rw [a8, updI_n (by omega)]; exact y2
        · rw [a3]; exact y4
        · rw [a8, updI_s]; rfl
        · rw [a40, updI_s]; rfl
        · rw [a40, updI_n (by omega)]; exact m3
  · have R := r_restore (d := 5) (E := E) hx hk6
    rw [if_pos h] at R
    refine pub_r hG ?_ R
    refine mX9_restore (d := 7) rfl rfl ?_
    simp (disch := first | omega | simp only [am_ci, am_cr, am_ca]) only [eX9_restore_0, eX9_restore_1, eX9_restore_2, eX9_restore_3, eX9_restore_6, eX9_restore_9, eX9_restore_11, eX9_restore_12, eX9_restore_13, eX9_restore_16, eX9_restore_17, eX9_restore_18, eX9_restore_21, eX9_restore_24, eX9_restore_26, eX9_restore_27, eX9_restore_28, eX9_restore_31, eX9_restore_32, eX9_restore_35, eX9_restore_36, eX9_restore_37, eX9_restore_40, eX9_restore_41, eX9_restore_44, eX9_restore_47, eX9_restore_48, am_bi, Int.reduceEq, Int.reduceLT, Int.reduceLE, Int.reduceToNat, ite_self, Decidable.not_not, not_true_eq_false, not_false_eq_true, ↓reduceIte, am_ci, am_cr, am_ca, am_b0, am_b1, am_ts, am_tn, am_then_some, List.cons_append, List.nil_append, ne_eq, iI_lit, iI_add, iI_sub, iI_mul, iI_neg, iI_lt, iI_le, iI_eq, iI_in, iI_clz, dI_ap, dI_wr, setR_s, wE_R, setR_2, setR_n, setR_o, updI_s, updI_n, updI_2, tl_0, tl_1, tl_2, tl_3, tl_4, tl_5, tl_6, tl_7, tl_8, tl_9, tl_10, tl_11, tl_12, tl_13, tl_14, tl_15, tl_16, tn_3, tn_5, tn_13, tn_21, tn_29, tn_33, tn_37, tn_41, tn_45, tn_49, tn_53, tn_57, tn_61, tn_40, tn_p, tn_0, true_and, and_true, sk_0, sk_1, sk_2, sl_2, sk_3, sl_3, sk_4, sl_4, sk_5, sl_5, sk_6, sl_6, sk_7, sl_7, sk_8, sl_8, sk_9, sl_9, sk_10, sl_10, sk_11, sl_11, sk_12, sl_12, sk_13, sk_14, sl_14, sk_15, sk_40, sk_41, sl_41, sk_330, sl_330, sk_355, sk_356, sl_356, sk_357, sl_357, sk_358, sl_358, sk_359, sl_359, sk_360, sl_360, sk_361, sk_362, sl_362, sk_363, sk_376, sk_377, sl_377, sk_378, sk_379, sl_379, sk_380, sl_380, sk_381, sl_381, sk_382, sl_382, sk_383, sl_383, sk_384, sl_384, sk_385, sl_385, sk_386, sl_386, sk_387, sl_387, sk_388, sl_388, sk_389, sl_389, sk_390, sl_390, sk_391, sl_391, sk_392, sl_392, sk_393, sl_393, sk_394, sl_394, sr_0_0, sr_0_1, sr_0_2, sr_0_3, sr_0_4, sr_0_5, sr_0_6, sr_0_7, sr_0_8, sr_0_9, sr_1_0, sr_1_1, sr_1_2, sr_13_0, sr_15_0, sr_15_2, sr_40_0, sr_355_0, sr_355_1, sr_355_2, sr_355_3, sr_355_4, sr_355_5, sr_361_2, sr_361_5, sr_361_6, sr_363_0, sr_363_1, sr_376_0, sr_376_2, sr_378_0, sr_378_1, sr_378_2, sr_378_4, sr_378_8, sr_378_10, sr_378_11, sr_378_12, sr_378_14, sr_378_20, sr_378_21, sr_378_22, sr_378_23, sr_378_24, sr_378_25, sr_378_26, am_vs, HW, h]
