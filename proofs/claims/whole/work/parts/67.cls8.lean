/-! ===== the class: days spread over ports; what is foretold ===== -/
/-- the league that is played, over the row t -/
def fR (E : Nat → Nat → Int) (t : Nat → Int) : Prop := lgR E 28 t ∧ wT t ∧ qT t
theorem fR_fr {E E' : Nat → Nat → Int} {t : Nat → Int} (h : fR E t) (hf : ∀ b, 28 ≤ b → b ≤ 39 → E' b = E b) : fR E' t := ⟨lgR_fr h.1 (fun b h1 h2 => hf b h1 (by omega)), h.2⟩
theorem fR_s {E : Nat → Nat → Int} {t : Nat → Int} (h : fR E t) {q : Nat} (hq : q < 28 ∨ 39 < q) {g : Nat → Int} : fR (setR E q g) t := fR_fr h (fun b h1 h2 => setR_n (by omega))
def gBN (N : Int) (g : Nat → Int) : Prop := ∀ p : Nat, (p : Int) < N → 0 ≤ g p ∧ g p ≤ 2000000
/-- ways between the first N ports -/
def wyN (t : Nat → Int) (N : Int) : Prop := ∀ w : Nat, w < 8 → (w : Int) < t 1 → (0 ≤ t (5 + w) ∧ t (5 + w) < N) ∧ 0 ≤ t (13 + w) ∧ t (13 + w) < N
theorem wyN_q {t : Nat → Int} (hw : wT t) (hq : qT t) : wyN t (t 0) := fun w w8 w1 => by
  have := hw.1.1.2.2.2.2.2.2.1 w w8
  have := hq.2.1 w w8 w1
  omega
theorem gBN_h {N : Int} {g : Nat → Int} (h : gBN N g) {a b : Nat} {c : Int} (ha : (a : Int) < N) (hb : (b : Int) < N) (hc : 0 ≤ c) : gBN N (hfT a b c g) := by
  intro p hp
  have h1 := h a ha
  have h2 := h p hp
  have h3 := h b hb
  unfold hfT
  split
  · by_cases e : p = b
    · subst e; rw [updI_s]; omega
    · rw [updI_n e]; exact h2
  · exact h2
theorem gBN_pa {t dl g : Nat → Int} {N : Int} (h : gBN N g) (hw : wyN t N) (hd : ∀ w : Nat, w < 8 → (w : Int) < t 1 → 0 ≤ dl w) : ∀ k : Nat, k ≤ 8 → (k : Int) ≤ t 1 → gBN N (paT t dl g k)
  | 0, _, _ => h
  | k + 1, hk, hk2 => by
    have ih := gBN_pa h hw hd k (by omega) (by omega)
    have w := hw k (by omega) (by omega)
    have dk := hd k (by omega) (by omega)
    rw [paT_s]
    exact gBN_h (gBN_h ih (by omega) (by omega) dk) (by omega) (by omega) dk
theorem gBN_pi {t dl g : Nat → Int} {N : Int} (h : gBN N g) (ht : 0 ≤ t 1 ∧ t 1 ≤ 8) (hw : wyN t N) (hd : ∀ w : Nat, w < 8 → (w : Int) < t 1 → 0 ≤ dl w) : ∀ n, gBN N (piT t dl g n)
  | 0 => h
  | n + 1 => by rw [piT_n]; exact gBN_pa (gBN_pi h ht hw hd n) hw hd _ (by omega) (by omega)
theorem hfT_cg {N : Int} {g g' : Nat → Int} (h : ∀ p : Nat, (p : Int) < N → g p = g' p) {a b : Nat} {c : Int} (ha : (a : Int) < N) (hb : (b : Int) < N) : ∀ p : Nat, (p : Int) < N → hfT a b c g p = hfT a b c g' p := by
  intro p hp
  unfold hfT
  rw [h a ha, h b hb]
  split
  · by_cases e : p = b
    · subst e; rw [updI_s, updI_s]
    · rw [updI_n e, updI_n e]; exact h p hp
  · exact h p hp
theorem paT_cg {t dl dl' g g' : Nat → Int} {N : Int} (h : ∀ p : Nat, (p : Int) < N → g p = g' p) (hw : wyN t N) (hd : ∀ w : Nat, w < 8 → (w : Int) < t 1 → dl w = dl' w) : ∀ k : Nat, k ≤ 8 → (k : Int) ≤ t 1 → ∀ p : Nat, (p : Int) < N → paT t dl g k p = paT t dl' g' k p
  | 0, _, _ => h
  | k + 1, hk, hk2 => by
    have ih := paT_cg h hw hd k (by omega) (by omega)
    have w := hw k (by omega) (by omega)
    rw [paT_s, paT_s, hd k (by omega) (by omega)]
    unfold slT
    exact hfT_cg (hfT_cg ih (by omega) (by omega)) (by omega) (by omega)
theorem piT_cg {t dl dl' g g' : Nat → Int} {N : Int} (ht : 0 ≤ t 1 ∧ t 1 ≤ 8) (h : ∀ p : Nat, (p : Int) < N → g p = g' p) (hw : wyN t N) (hd : ∀ w : Nat, w < 8 → (w : Int) < t 1 → dl w = dl' w) : ∀ n, ∀ p : Nat, (p : Int) < N → piT t dl g n p = piT t dl' g' n p
  | 0 => h
  | n + 1 => by rw [piT_n, piT_n]; exact paT_cg (piT_cg ht h hw hd n) hw hd _ (by omega) (by omega)
theorem hfT_m (a b : Nat) (c : Int) (g : Nat → Int) : updI g b (if g a + c < g b then g a + c else g b) = hfT a b c g := by
  unfold hfT
  split
  · rfl
  · funext i
    unfold updI
    split
    · rename_i e; rw [e]
    · rfl
theorem c_spread {d q : Nat} {m : Int} {dl : Nat → Int} {E : Nat → Nat → Int} {t : Nat → Int} (hq : 356 ≤ q ∧ q ≤ 360) (hF : fR E t) (hm : 0 ≤ m ∧ m ≤ 6) (hdl : ∀ w : Nat, w < 8 → (w : Int) < t 1 → dl w = dyV (t (21 + w)) m) (hg : gBN (t 0) (E q)) : am_sem (d + 2) 17 [.ref 355, .ref q, .int (iI m)] am_S0 (dI E) = some (none, am_S0, dI (setR E q (piT t dl (E q) 5))) := by
  obtain ⟨⟨hR, hD⟩, hw, hqT⟩ := hF
  have hb := hw.1.1
  have a0 := hb.2.1
  have a1 := hb.2.2.1
  have wy := wyN_q hw hqT
  have h1 : w1T t := hqT.1.2.2.1
  have hd : ∀ w : Nat, w < 8 → (w : Int) < t 1 → 0 ≤ dl w ∧ dl w ≤ 27 := fun w w8 w1 => by
    have := h1 w w1
    have := (hb.2.2.2.2.2.2.1 w w8).2.2
    rw [hdl w w8 w1]
    unfold dyV
    (repeat' split) <;> omega
  obtain ⟨K, hK⟩ := Int.eq_ofNat_of_zero_le a1.1
  have qk : am_kd am_S0 q = 1 := by
    have : q = 356 ∨ q = 357 ∨ q = 358 ∨ q = 359 ∨ q = 360 := by omega
    rcases this with rfl | rfl | rfl | rfl | rfl
    · exact sk_356
    · exact sk_357
    · exact sk_358
    · exact sk_359
    · exact sk_360
  have ql : am_ln am_S0 q = 6 := by
    have : q = 356 ∨ q = 357 ∨ q = 358 ∨ q = 359 ∨ q = 360 := by omega
    rcases this with rfl | rfl | rfl | rfl | rfl
    · exact sl_356
    · exact sl_357
    · exact sl_358
    · exact sl_359
    · exact sl_360
  have q28 : ∀ i, i ≤ 11 → 28 + i ≠ q := fun i hi => by omega
  have e1 : E 28 1 = (K : Int) := by rw [hR.1.2.1, hK]
  refine mX2_spread rfl rfl ?_
  simp (disch := first | omega | simp only [am_ci, am_cr, am_ca]) only [eX2_spread_0, eX2_spread_1, am_bi, Int.reduceEq, Int.reduceLT, Int.reduceLE, Int.reduceToNat, ite_self, Decidable.not_not, not_true_eq_false, not_false_eq_true, ↓reduceIte, am_ci, am_cr, am_ca, am_b0, am_b1, am_ts, am_tn, am_then_some, List.cons_append, List.nil_append, ne_eq, iI_lit, iI_add, iI_sub, iI_mul, iI_neg, iI_lt, iI_le, iI_eq, iI_in, iI_clz, dI_ap, dI_wr, setR_s, wE_R, setR_2, setR_n, setR_o, updI_s, updI_n, updI_2, tl_0, tl_1, tl_2, tl_3, tl_4, tl_5, tl_6, tl_7, tl_8, tl_9, tl_10, tl_11, tl_12, tl_13, tl_14, tl_15, tl_16, tn_3, tn_5, tn_13, tn_21, tn_29, tn_33, tn_37, tn_41, tn_45, tn_49, tn_53, tn_57, tn_61, tn_40, tn_p, tn_0, true_and, and_true, sk_0, sk_1, sk_2, sl_2, sk_3, sl_3, sk_4, sl_4, sk_5, sl_5, sk_6, sl_6, sk_7, sl_7, sk_8, sl_8, sk_9, sl_9, sk_10, sl_10, sk_11, sl_11, sk_12, sl_12, sk_13, sk_14, sl_14, sk_15, sk_40, sk_41, sl_41, sk_330, sl_330, sk_355, sk_356, sl_356, sk_357, sl_357, sk_358, sl_358, sk_359, sl_359, sk_360, sl_360, sk_361, sk_362, sl_362, sk_363, sk_376, sk_377, sl_377, sk_378, sk_379, sl_379, sk_380, sl_380, sk_381, sl_381, sk_382, sl_382, sk_383, sl_383, sk_384, sl_384, sk_385, sl_385, sk_386, sl_386, sk_387, sl_387, sk_388, sl_388, sk_389, sl_389, sk_390, sl_390, sk_391, sl_391, sk_392, sl_392, sk_393, sl_393, sk_394, sl_394, sr_0_0, sr_0_1, sr_0_2, sr_0_3, sr_0_4, sr_0_5, sr_0_6, sr_0_7, sr_0_8, sr_0_9, sr_1_0, sr_1_1, sr_1_2, sr_13_0, sr_15_0, sr_15_2, sr_40_0, sr_355_0, sr_355_1, sr_355_2, sr_355_3, sr_355_4, sr_355_5, sr_361_2, sr_361_5, sr_361_6, sr_363_0, sr_363_1, sr_376_0, sr_376_2, sr_378_0, sr_378_1, sr_378_2, sr_378_4, sr_378_8, sr_378_10, sr_378_11, sr_378_12, sr_378_14, sr_378_20, sr_378_21, sr_378_22, sr_378_23, sr_378_24, sr_378_25, sr_378_26, am_vs]
  have h0 := am_loop (P := fun k => ∀ v4 v5 v6 v7, am_ev (am_sem (d + 1)) 2 cX2_spread 2 [.ref 355, .ref q, .int (iI m), .int (iI ((k : Int) + 1)), v4, v5, v6, v7] [] am_S0 (dI (setR E q (piT t dl (E q) k))) (none, am_S0, dI (setR E q (piT t dl (E q) 5)))) (n := 5) ?_ ?_ (k := 0) (by omega)
  · have h2 := h0 (.retAddr 0) (.retAddr 0) (.retAddr 0) (.retAddr 0)
    rw [show piT t dl (E q) 0 = E q from rfl, setR_e] at h2
    exact h2
  · intro k hk ih v4 v5 v6 v7
    have hG := gBN_pi hg a1 wy (fun w w8 w1 => (hd w w8 w1).1) k
    rw [piT_n, hK, show ((K : Int)).toNat = K from rfl] at ih
    generalize piT t dl (E q) k = G at *
    rw [eX2_spread_2]
    simp (disch := first | omega | simp only [am_ci, am_cr, am_ca]) only [eX2_spread_3, eX2_spread_5, eX2_spread_8, eX2_spread_9, am_bi, Int.reduceEq, Int.reduceLT, Int.reduceLE, Int.reduceToNat, ite_self, Decidable.not_not, not_true_eq_false, not_false_eq_true, ↓reduceIte, am_ci, am_cr, am_ca, am_b0, am_b1, am_ts, am_tn, am_then_some, List.cons_append, List.nil_append, ne_eq, iI_lit, iI_add, iI_sub, iI_mul, iI_neg, iI_lt, iI_le, iI_eq, iI_in, iI_clz, dI_ap, dI_wr, setR_s, wE_R, setR_2, setR_n, setR_o, updI_s, updI_n, updI_2, tl_0, tl_1, tl_2, tl_3, tl_4, tl_5, tl_6, tl_7, tl_8, tl_9, tl_10, tl_11, tl_12, tl_13, tl_14, tl_15, tl_16, tn_3, tn_5, tn_13, tn_21, tn_29, tn_33, tn_37, tn_41, tn_45, tn_49, tn_53, tn_57, tn_61, tn_40, tn_p, tn_0, true_and, and_true, sk_0, sk_1, sk_2, sl_2, sk_3, sl_3, sk_4, sl_4, sk_5, sl_5, sk_6, sl_6, sk_7, sl_7, sk_8, sl_8, sk_9, sl_9, sk_10, sl_10, sk_11, sl_11, sk_12, sl_12, sk_13, sk_14, sl_14, sk_15, sk_40, sk_41, sl_41, sk_330, sl_330, sk_355, sk_356, sl_356, sk_357, sl_357, sk_358, sl_358, sk_359, sl_359, sk_360, sl_360, sk_361, sk_362, sl_362, sk_363, sk_376, sk_377, sl_377, sk_378, sk_379, sl_379, sk_380, sl_380, sk_381, sl_381, sk_382, sl_382, sk_383, sl_383, sk_384, sl_384, sk_385, sl_385, sk_386, sl_386, sk_387, sl_387, sk_388, sl_388, sk_389, sl_389, sk_390, sl_390, sk_391, sl_391, sk_392, sl_392, sk_393, sl_393, sk_394, sl_394, sr_0_0, sr_0_1, sr_0_2, sr_0_3, sr_0_4, sr_0_5, sr_0_6, sr_0_7, sr_0_8, sr_0_9, sr_1_0, sr_1_1, sr_1_2, sr_13_0, sr_15_0, sr_15_2, sr_40_0, sr_355_0, sr_355_1, sr_355_2, sr_355_3, sr_355_4, sr_355_5, sr_361_2, sr_361_5, sr_361_6, sr_363_0, sr_363_1, sr_376_0, sr_376_2, sr_378_0, sr_378_1, sr_378_2, sr_378_4, sr_378_8, sr_378_10, sr_378_11, sr_378_12, sr_378_14, sr_378_20, sr_378_21, sr_378_22, sr_378_23, sr_378_24, sr_378_25, sr_378_26, am_vs]
    rw [if_neg (by omega)]
    have h3 := am_loop (P := fun j => ∀ v5 v6 v7, am_ev (am_sem (d + 1)) 2 cX2_spread 11 [.ref 355, .ref q, .int (iI m), .int (iI ((k : Int) + 1)), .int (iI j), v5, v6, v7] [] am_S0 (dI (setR E q (paT t dl G j))) (none, am_S0, dI (setR E q (piT t dl (E q) 5)))) (n := K) ?_ ?_ (k := 0) (by omega)
    · exact h3 _ _ _
    · intro j hj ih2 v5 v6 v7
      have j8 : j < 8 := by omega
      have hP := gBN_pa hG wy (fun w w8 w1 => (hd w w8 w1).1) j (by omega) (by omega)
      obtain ⟨w5, w13⟩ := wy j j8 (by omega)
      obtain ⟨g1, g2, g3⟩ := hR.2.1 j j8 (by omega)
      obtain ⟨a, ha⟩ := Int.eq_ofNat_of_zero_le w5.1
      obtain ⟨b, hb2⟩ := Int.eq_ofNat_of_zero_le w13.1
      rw [ha] at g1
      rw [hb2] at g2
      have dj := hd j j8 (by omega)
      have H1 := c_daysOn (d := d) (a := 28) (w := j) (m := m) (E := setR E q (paT t dl G j)) am_lg28 j8 hm (by rw [setR_n (by omega), g3]; exact (hb.2.2.2.2.2.2.1 j j8).2.2)
      rw [setR_n (by omega), g3, ← hdl j j8 (by omega)] at H1
      rw [paT_s, ha, hb2, show ((a : Int)).toNat = a from rfl, show ((b : Int)).toNat = b from rfl] at ih2
      generalize paT t dl G j = P at *
      generalize dl j = c at *
      have p1 := hP a (by omega)
      have p2 := hP b (by omega)
      have hP2 := gBN_h hP (a := a) (b := b) (c := c) (by omega) (by omega) dj.1
      have p3 := hP2 a (by omega)
      have p4 := hP2 b (by omega)
      unfold slT at ih2
      rw [eX2_spread_11]
      simp (disch := first | omega | simp only [am_ci, am_cr, am_ca]) only [eX2_spread_13, eX2_spread_14, eX2_spread_17, eX2_spread_20, eX2_spread_23, eX2_spread_24, eX2_spread_27, eX2_spread_30, eX2_spread_32, eX2_spread_33, eX2_spread_35, eX2_spread_36, eX2_spread_39, eX2_spread_42, eX2_spread_44, eX2_spread_45, eX2_spread_47, eX2_spread_48, eX2_spread_51, eX2_spread_53, eX2_spread_54, eX2_spread_57, eX2_spread_59, eX2_spread_60, eX2_spread_62, eX2_spread_63, eX2_spread_65, eX2_spread_66, eX2_spread_67, eX2_spread_69, eX2_spread_70, eX2_spread_72, eX2_spread_73, eX2_spread_76, eX2_spread_77, eX2_spread_78, eX2_spread_80, eX2_spread_81, eX2_spread_83, eX2_spread_84, eX2_spread_85, eX2_spread_87, eX2_spread_88, eX2_spread_90, eX2_spread_91, eX2_spread_94, eX2_spread_95, eX2_spread_98, am_bi, Int.reduceEq, Int.reduceLT, Int.reduceLE, Int.reduceToNat, ite_self, Decidable.not_not, not_true_eq_false, not_false_eq_true, ↓reduceIte, am_ci, am_cr, am_ca, am_b0, am_b1, am_ts, am_tn, am_then_some, List.cons_append, List.nil_append, ne_eq, iI_lit, iI_add, iI_sub, iI_mul, iI_neg, iI_lt, iI_le, iI_eq, iI_in, iI_clz, dI_ap, dI_wr, setR_s, wE_R, setR_2, setR_n, setR_o, updI_s, updI_n, updI_2, tl_0, tl_1, tl_2, tl_3, tl_4, tl_5, tl_6, tl_7, tl_8, tl_9, tl_10, tl_11, tl_12, tl_13, tl_14, tl_15, tl_16, tn_3, tn_5, tn_13, tn_21, tn_29, tn_33, tn_37, tn_41, tn_45, tn_49, tn_53, tn_57, tn_61, tn_40, tn_p, tn_0, true_and, and_true, sk_0, sk_1, sk_2, sl_2, sk_3, sl_3, sk_4, sl_4, sk_5, sl_5, sk_6, sl_6, sk_7, sl_7, sk_8, sl_8, sk_9, sl_9, sk_10, sl_10, sk_11, sl_11, sk_12, sl_12, sk_13, sk_14, sl_14, sk_15, sk_40, sk_41, sl_41, sk_330, sl_330, sk_355, sk_356, sl_356, sk_357, sl_357, sk_358, sl_358, sk_359, sl_359, sk_360, sl_360, sk_361, sk_362, sl_362, sk_363, sk_376, sk_377, sl_377, sk_378, sk_379, sl_379, sk_380, sl_380, sk_381, sl_381, sk_382, sl_382, sk_383, sl_383, sk_384, sl_384, sk_385, sl_385, sk_386, sl_386, sk_387, sl_387, sk_388, sl_388, sk_389, sl_389, sk_390, sl_390, sk_391, sl_391, sk_392, sl_392, sk_393, sl_393, sk_394, sl_394, sr_0_0, sr_0_1, sr_0_2, sr_0_3, sr_0_4, sr_0_5, sr_0_6, sr_0_7, sr_0_8, sr_0_9, sr_1_0, sr_1_1, sr_1_2, sr_13_0, sr_15_0, sr_15_2, sr_40_0, sr_355_0, sr_355_1, sr_355_2, sr_355_3, sr_355_4, sr_355_5, sr_361_2, sr_361_5, sr_361_6, sr_363_0, sr_363_1, sr_376_0, sr_376_2, sr_378_0, sr_378_1, sr_378_2, sr_378_4, sr_378_8, sr_378_10, sr_378_11, sr_378_12, sr_378_14, sr_378_20, sr_378_21, sr_378_22, sr_378_23, sr_378_24, sr_378_25, sr_378_26, am_vs, am_lg28.k, am_lg28.k1, am_lg28.r1, am_lg28.l1, am_lg28.k2, am_lg28.r2, am_lg28.l2, qk, ql, e1, g1, g2, H1, iI_ite, hfT_m]
      rw [if_neg (by omega)]
      exact ih2 _ _ _
    · intro v5 v6 v7
      rw [eX2_spread_11]
      simp (disch := first | omega | simp only [am_ci, am_cr, am_ca]) only [eX2_spread_13, eX2_spread_14, eX2_spread_17, eX2_spread_20, eX2_spread_23, eX2_spread_24, eX2_spread_27, eX2_spread_30, eX2_spread_32, eX2_spread_33, eX2_spread_35, eX2_spread_36, eX2_spread_39, eX2_spread_42, eX2_spread_44, eX2_spread_45, eX2_spread_47, eX2_spread_48, eX2_spread_51, eX2_spread_53, eX2_spread_54, eX2_spread_57, eX2_spread_59, eX2_spread_60, eX2_spread_62, eX2_spread_63, eX2_spread_65, eX2_spread_66, eX2_spread_67, eX2_spread_69, eX2_spread_70, eX2_spread_72, eX2_spread_73, eX2_spread_76, eX2_spread_77, eX2_spread_78, eX2_spread_80, eX2_spread_81, eX2_spread_83, eX2_spread_84, eX2_spread_85, eX2_spread_87, eX2_spread_88, eX2_spread_90, eX2_spread_91, eX2_spread_94, eX2_spread_95, eX2_spread_98, eX2_spread_101, eX2_spread_104, am_bi, Int.reduceEq, Int.reduceLT, Int.reduceLE, Int.reduceToNat, ite_self, Decidable.not_not, not_true_eq_false, not_false_eq_true, ↓reduceIte, am_ci, am_cr, am_ca, am_b0, am_b1, am_ts, am_tn, am_then_some, List.cons_append, List.nil_append, ne_eq, iI_lit, iI_add, iI_sub, iI_mul, iI_neg, iI_lt, iI_le, iI_eq, iI_in, iI_clz, dI_ap, dI_wr, setR_s, wE_R, setR_2, setR_n, setR_o, updI_s, updI_n, updI_2, tl_0, tl_1, tl_2, tl_3, tl_4, tl_5, tl_6, tl_7, tl_8, tl_9, tl_10, tl_11, tl_12, tl_13, tl_14, tl_15, tl_16, tn_3, tn_5, tn_13, tn_21, tn_29, tn_33, tn_37, tn_41, tn_45, tn_49, tn_53, tn_57, tn_61, tn_40, tn_p, tn_0, true_and, and_true, sk_0, sk_1, sk_2, sl_2, sk_3, sl_3, sk_4, sl_4, sk_5, sl_5, sk_6, sl_6, sk_7, sl_7, sk_8, sl_8, sk_9, sl_9, sk_10, sl_10, sk_11, sl_11, sk_12, sl_12, sk_13, sk_14, sl_14, sk_15, sk_40, sk_41, sl_41, sk_330, sl_330, sk_355, sk_356, sl_356, sk_357, sl_357, sk_358, sl_358, sk_359, sl_359, sk_360, sl_360, sk_361, sk_362, sl_362, sk_363, sk_376, sk_377, sl_377, sk_378, sk_379, sl_379, sk_380, sl_380, sk_381, sl_381, sk_382, sl_382, sk_383, sl_383, sk_384, sl_384, sk_385, sl_385, sk_386, sl_386, sk_387, sl_387, sk_388, sl_388, sk_389, sl_389, sk_390, sl_390, sk_391, sl_391, sk_392, sl_392, sk_393, sl_393, sk_394, sl_394, sr_0_0, sr_0_1, sr_0_2, sr_0_3, sr_0_4, sr_0_5, sr_0_6, sr_0_7, sr_0_8, sr_0_9, sr_1_0, sr_1_1, sr_1_2, sr_13_0, sr_15_0, sr_15_2, sr_40_0, sr_355_0, sr_355_1, sr_355_2, sr_355_3, sr_355_4, sr_355_5, sr_361_2, sr_361_5, sr_361_6, sr_363_0, sr_363_1, sr_376_0, sr_376_2, sr_378_0, sr_378_1, sr_378_2, sr_378_4, sr_378_8, sr_378_10, sr_378_11, sr_378_12, sr_378_14, sr_378_20, sr_378_21, sr_378_22, sr_378_23, sr_378_24, sr_378_25, sr_378_26, am_vs, am_lg28.k, e1]
      rw [if_pos (by omega)]
      exact ih _ _ _ _
  · intro v4 v5 v6 v7
    rw [eX2_spread_2]
    simp (disch := first | omega | simp only [am_ci, am_cr, am_ca]) only [eX2_spread_3, eX2_spread_5, eX2_spread_8, eX2_spread_9, eX2_spread_13, eX2_spread_14, eX2_spread_17, eX2_spread_20, eX2_spread_23, eX2_spread_24, eX2_spread_27, eX2_spread_30, eX2_spread_32, eX2_spread_33, eX2_spread_35, eX2_spread_36, eX2_spread_39, eX2_spread_42, eX2_spread_44, eX2_spread_45, eX2_spread_47, eX2_spread_48, eX2_spread_51, eX2_spread_53, eX2_spread_54, eX2_spread_57, eX2_spread_59, eX2_spread_60, eX2_spread_62, eX2_spread_63, eX2_spread_65, eX2_spread_66, eX2_spread_67, eX2_spread_69, eX2_spread_70, eX2_spread_72, eX2_spread_73, eX2_spread_76, eX2_spread_77, eX2_spread_78, eX2_spread_80, eX2_spread_81, eX2_spread_83, eX2_spread_84, eX2_spread_85, eX2_spread_87, eX2_spread_88, eX2_spread_90, eX2_spread_91, eX2_spread_94, eX2_spread_95, eX2_spread_98, eX2_spread_101, eX2_spread_104, eX2_spread_107, am_bi, Int.reduceEq, Int.reduceLT, Int.reduceLE, Int.reduceToNat, ite_self, Decidable.not_not, not_true_eq_false, not_false_eq_true, ↓reduceIte, am_ci, am_cr, am_ca, am_b0, am_b1, am_ts, am_tn, am_then_some, List.cons_append, List.nil_append, ne_eq, iI_lit, iI_add, iI_sub, iI_mul, iI_neg, iI_lt, iI_le, iI_eq, iI_in, iI_clz, dI_ap, dI_wr, setR_s, wE_R, setR_2, setR_n, setR_o, updI_s, updI_n, updI_2, tl_0, tl_1, tl_2, tl_3, tl_4, tl_5, tl_6, tl_7, tl_8, tl_9, tl_10, tl_11, tl_12, tl_13, tl_14, tl_15, tl_16, tn_3, tn_5, tn_13, tn_21, tn_29, tn_33, tn_37, tn_41, tn_45, tn_49, tn_53, tn_57, tn_61, tn_40, tn_p, tn_0, true_and, and_true, sk_0, sk_1, sk_2, sl_2, sk_3, sl_3, sk_4, sl_4, sk_5, sl_5, sk_6, sl_6, sk_7, sl_7, sk_8, sl_8, sk_9, sl_9, sk_10, sl_10, sk_11, sl_11, sk_12, sl_12, sk_13, sk_14, sl_14, sk_15, sk_40, sk_41, sl_41, sk_330, sl_330, sk_355, sk_356, sl_356, sk_357, sl_357, sk_358, sl_358, sk_359, sl_359, sk_360, sl_360, sk_361, sk_362, sl_362, sk_363, sk_376, sk_377, sl_377, sk_378, sk_379, sl_379, sk_380, sl_380, sk_381, sl_381, sk_382, sl_382, sk_383, sl_383, sk_384, sl_384, sk_385, sl_385, sk_386, sl_386, sk_387, sl_387, sk_388, sl_388, sk_389, sl_389, sk_390, sl_390, sk_391, sl_391, sk_392, sl_392, sk_393, sl_393, sk_394, sl_394, sr_0_0, sr_0_1, sr_0_2, sr_0_3, sr_0_4, sr_0_5, sr_0_6, sr_0_7, sr_0_8, sr_0_9, sr_1_0, sr_1_1, sr_1_2, sr_13_0, sr_15_0, sr_15_2, sr_40_0, sr_355_0, sr_355_1, sr_355_2, sr_355_3, sr_355_4, sr_355_5, sr_361_2, sr_361_5, sr_361_6, sr_363_0, sr_363_1, sr_376_0, sr_376_2, sr_378_0, sr_378_1, sr_378_2, sr_378_4, sr_378_8, sr_378_10, sr_378_11, sr_378_12, sr_378_14, sr_378_20, sr_378_21, sr_378_22, sr_378_23, sr_378_24, sr_378_25, sr_378_26, am_vs]
    all_goals ((repeat' split) <;> first | rfl | trivial | (exfalso; omega))
