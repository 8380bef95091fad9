/-! ===== the reference: days sink along ways ===== -/
/-- half a way: b's day sinks to a's and c more -/
def hfT (a b : Nat) (c : Int) (g : Nat → Int) : Nat → Int := if g a + c < g b then updI g b (g a + c) else g
def slT (a b : Nat) (c : Int) (g : Nat → Int) : Nat → Int := hfT b a c (hfT a b c g)
/-- the first k ways -/
def paT (t : Nat → Int) (dl : Nat → Int) (g : Nat → Int) : Nat → Nat → Int
  | 0 => g
  | k + 1 => slT (t (5 + k)).toNat (t (13 + k)).toNat (dl k) (paT t dl g k)
theorem paT_s (t dl g : Nat → Int) (k : Nat) : paT t dl g (k + 1) = slT (t (5 + k)).toNat (t (13 + k)).toNat (dl k) (paT t dl g k) := rfl
/-- all ways, n times -/
def piT (t dl g : Nat → Int) : Nat → Nat → Int
  | 0 => g
  | n + 1 => piT t dl (paT t dl g (t 1).toNat) n
theorem piT_s (t dl g : Nat → Int) (n : Nat) : piT t dl g (n + 1) = piT t dl (paT t dl g (t 1).toNat) n := rfl
def sm6 (g : Nat → Int) : Int := g 0 + g 1 + g 2 + g 3 + g 4 + g 5
theorem sm6_u {g : Nat → Int} {b : Nat} {z : Int} (hb : b < 6) : sm6 (updI g b z) = sm6 g - g b + z := by
  have h : b = 0 ∨ b = 1 ∨ b = 2 ∨ b = 3 ∨ b = 4 ∨ b = 5 := by omega
  unfold sm6 updI
  rcases h with rfl | rfl | rfl | rfl | rfl | rfl <;> simp <;> omega
/-- days of six ports -/
def gB (g : Nat → Int) : Prop := ∀ p, p < 6 → 0 ≤ g p ∧ g p ≤ 2000000
theorem gB_u {g : Nat → Int} (h : gB g) {b : Nat} {z : Int} (hz : 0 ≤ z ∧ z ≤ 2000000) : gB (updI g b z) := by
  intro p hp
  unfold updI
  split
  · exact hz
  · exact h p hp
theorem gB_h {g : Nat → Int} (h : gB g) {a b : Nat} {c : Int} (ha : a < 6) (hb : b < 6) (hc : 0 ≤ c) : gB (hfT a b c g) := by
  unfold hfT
  have h1 := h a ha
  have h2 := h b hb
  split
  · exact gB_u h (by omega)
  · exact h
theorem gB_pa {t dl g : Nat → Int} (h : gB g) (hw : ∀ w, w < 8 → (0 ≤ t (5 + w) ∧ t (5 + w) < 6) ∧ 0 ≤ t (13 + w) ∧ t (13 + w) < 6) (hd : ∀ w, w < 8 → 0 ≤ dl w) : ∀ k, k ≤ 8 → gB (paT t dl g k)
  | 0, _ => h
  | k + 1, hk => by
    have ih := gB_pa h hw hd k (by omega)
    have := hw k (by omega)
    have := hd k (by omega)
    rw [paT_s]
    exact gB_h (gB_h ih (by omega) (by omega) (by omega)) (by omega) (by omega) (by omega)
theorem sm6_0 {g : Nat → Int} (h : gB g) : 0 ≤ sm6 g := by
  have h0 := h 0 (by omega); have h1 := h 1 (by omega); have h2 := h 2 (by omega); have h3 := h 3 (by omega); have h4 := h 4 (by omega); have h5 := h 5 (by omega)
  unfold sm6; omega
theorem hfT_d (a b : Nat) (c : Int) (g : Nat → Int) (hb : b < 6) : hfT a b c g = g ∨ sm6 (hfT a b c g) < sm6 g := by
  unfold hfT
  split
  · exact Or.inr (by rw [sm6_u hb]; omega)
  · exact Or.inl rfl
theorem slT_d (a b : Nat) (c : Int) (g : Nat → Int) (ha : a < 6) (hb : b < 6) : slT a b c g = g ∨ sm6 (slT a b c g) < sm6 g := by
  unfold slT
  have h1 := hfT_d a b c g hb
  have h2 := hfT_d b a c (hfT a b c g) ha
  rcases h1 with h1 | h1
  · rw [h1] at h2 ⊢; exact h2
  · rcases h2 with h2 | h2
    · rw [h2]; exact Or.inr h1
    · exact Or.inr (by omega)
theorem paT_d {t dl g : Nat → Int} (hw : ∀ w, w < 8 → (0 ≤ t (5 + w) ∧ t (5 + w) < 6) ∧ 0 ≤ t (13 + w) ∧ t (13 + w) < 6) : ∀ k, k ≤ 8 → (paT t dl g k = g ∨ sm6 (paT t dl g k) < sm6 g)
  | 0, _ => Or.inl rfl
  | k + 1, hk => by
    have ih := paT_d (dl := dl) (g := g) hw k (by omega)
    have := hw k (by omega)
    have h2 := slT_d (t (5 + k)).toNat (t (13 + k)).toNat (dl k) (paT t dl g k) (by omega) (by omega)
    rw [paT_s]
    rcases h2 with h2 | h2
    · rw [h2]; exact ih
    · rcases ih with ih | ih
      · rw [ih] at h2 ⊢; exact Or.inr h2
      · exact Or.inr (by omega)
theorem r_sinks_i {d s q k9 : Nat} {E : Nat → Nat → Int} {g : Nat → Int} {R : Option Value × am_S × am_D} (hq : q = 391 ∨ q = 392) (hb : bT (E 383)) (hs : s < 4) (hg : gB g) (hk9 : (E 383 1) = (k9 : Int)) (hR : ∀ (m : Nat) v4 v5 v6 v7, (m = 0 ∧ paT (E 383) (tkT (E 383) s) g k9 = g ∨ m = 1 ∧ sm6 (paT (E 383) (tkT (E 383) s) g k9) < sm6 g) → am_ev (am_sem (d + 1)) 10 cX10_sinks 2 [.ref 378, .int (iI s), .ref q, .int (iI m), v4, v5, v6, v7] [] am_S0 (dI (setR E q (paT (E 383) (tkT (E 383) s) g k9))) R) (v5 v6 v7 : Value) : am_ev (am_sem (d + 1)) 10 cX10_sinks 11 [.ref 378, .int (iI s), .ref q, .int (iI 0), .int (iI 0), v5, v6, v7] [] am_S0 (dI (setR E q g)) R := by
  have a1 := hb.2.2.1
  have hT : ∀ w, w < 8 → 0 ≤ tkT (E 383) s w ∧ tkT (E 383) s w ≤ 18 := fun w hw => tkT_b (hb.2.2.2.2.2.2.1 w hw).2.2
  have qk : am_kd am_S0 q = 1 := by rcases hq with rfl | rfl; exact sk_391; exact sk_392
  have ql : am_ln am_S0 q = 6 := by rcases hq with rfl | rfl; exact sl_391; exact sl_392
  have qn : 383 ≠ q := by omega
  have h0 := am_loop (P := fun k => ∀ (m : Nat) v5 v6 v7, (m = 0 ∧ paT (E 383) (tkT (E 383) s) g k = g ∨ m = 1 ∧ sm6 (paT (E 383) (tkT (E 383) s) g k) < sm6 g) → am_ev (am_sem (d + 1)) 10 cX10_sinks 11 [.ref 378, .int (iI s), .ref q, .int (iI m), .int (iI k), v5, v6, v7] [] am_S0 (dI (setR E q (paT (E 383) (tkT (E 383) s) g k))) R) (n := k9) ?_ ?_ (k := 0) (by omega)
  · exact h0 0 v5 v6 v7 (Or.inl ⟨rfl, rfl⟩)
  · intro k hk ih m v5 v6 v7 hm
    have hG := gB_pa (t := E 383) (dl := tkT (E 383) s) hg (fun w hw => ⟨(hb.2.2.2.2.2.2.1 w hw).1, (hb.2.2.2.2.2.2.1 w hw).2.1⟩) (fun w hw => (hT w hw).1) k (by omega)
    rw [paT_s] at ih
    obtain ⟨w5, w13, w21⟩ := hb.2.2.2.2.2.2.1 k (by omega)
    have hTk := hT k (by omega)
    obtain ⟨a, ha⟩ := Int.eq_ofNat_of_zero_le w5.1
    obtain ⟨b, hb2⟩ := Int.eq_ofNat_of_zero_le w13.1
    rw [ha, hb2, show ((a : Int)).toNat = a from rfl, show ((b : Int)).toNat = b from rfl] at ih
    have H1 := r_takesOf (d := d) (q := 383) (E := setR E q (paT (E 383) (tkT (E 383) s) g k)) ⟨sk_383, sl_383⟩ (by rw [setR_n qn]; exact hb.1) (s := s) (w := k) hs (by omega)
    rw [setR_n qn] at H1
    generalize paT (E 383) (tkT (E 383) s) g k = G at *
    generalize tkT (E 383) s k = c at *
    have g1 := hG a (by omega)
    have g2 := hG b (by omega)
    rw [eX10_sinks_11]
    unfold slT at ih
    by_cases c1 : G a + c < G b
    · have e1 : hfT a b c G = updI G b (G a + c) := by unfold hfT; rw [if_pos c1]
      have hm1 : sm6 (updI G b (G a + c)) < sm6 g := by
        rw [sm6_u (by omega)]
        rcases hm with hm | hm
        · have e := hm.2; rw [e]; rw [e] at c1; omega
        · omega
      rw [e1] at ih
      by_cases eab : a = b
      · subst eab; exfalso; omega
      have n1 : updI G b (G a + c) a = G a := updI_n eab
      have e2 : hfT b a c (updI G b (G a + c)) = updI G b (G a + c) := by unfold hfT; rw [n1, updI_s, if_neg (by omega)]
      rw [e2] at ih
      simp (disch := first | omega | simp only [am_ci, am_cr, am_ca]) only [eX10_sinks_13, eX10_sinks_14, eX10_sinks_17, eX10_sinks_18, eX10_sinks_19, eX10_sinks_22, eX10_sinks_23, eX10_sinks_26, eX10_sinks_27, eX10_sinks_29, eX10_sinks_30, eX10_sinks_31, eX10_sinks_33, eX10_sinks_34, eX10_sinks_37, eX10_sinks_39, eX10_sinks_41, eX10_sinks_42, eX10_sinks_43, eX10_sinks_45, eX10_sinks_46, eX10_sinks_49, eX10_sinks_50, eX10_sinks_52, eX10_sinks_55, eX10_sinks_57, eX10_sinks_58, eX10_sinks_60, eX10_sinks_61, eX10_sinks_63, eX10_sinks_64, eX10_sinks_65, eX10_sinks_67, eX10_sinks_68, eX10_sinks_71, eX10_sinks_72, eX10_sinks_74, eX10_sinks_75, eX10_sinks_77, eX10_sinks_78, eX10_sinks_80, eX10_sinks_81, eX10_sinks_82, eX10_sinks_83, eX10_sinks_84, eX10_sinks_85, eX10_sinks_87, eX10_sinks_88, eX10_sinks_90, eX10_sinks_91, eX10_sinks_92, eX10_sinks_94, eX10_sinks_95, eX10_sinks_98, eX10_sinks_99, eX10_sinks_101, eX10_sinks_102, eX10_sinks_104, eX10_sinks_105, eX10_sinks_107, eX10_sinks_108, eX10_sinks_109, eX10_sinks_110, eX10_sinks_111, eX10_sinks_114, am_bi, Int.reduceEq, Int.reduceLT, Int.reduceLE, Int.reduceToNat, ite_self, Decidable.not_not, not_true_eq_false, not_false_eq_true, ↓reduceIte, am_ci, am_cr, am_ca, am_b0, am_b1, am_ts, am_tn, am_then_some, List.cons_append, List.nil_append, ne_eq, iI_lit, iI_add, iI_sub, iI_mul, iI_neg, iI_lt, iI_le, iI_eq, iI_in, iI_clz, dI_ap, dI_wr, setR_s, wE_R, setR_2, setR_n, setR_o, updI_s, updI_n, updI_2, tl_0, tl_1, tl_2, tl_3, tl_4, tl_5, tl_6, tl_7, tl_8, tl_9, tl_10, tl_11, tl_12, tl_13, tl_14, tl_15, tl_16, tn_3, tn_5, tn_13, tn_21, tn_29, tn_33, tn_37, tn_41, tn_45, tn_49, tn_53, tn_57, tn_61, tn_40, tn_p, tn_0, true_and, and_true, sk_0, sk_1, sk_2, sl_2, sk_3, sl_3, sk_4, sl_4, sk_5, sl_5, sk_6, sl_6, sk_7, sl_7, sk_8, sl_8, sk_9, sl_9, sk_10, sl_10, sk_11, sl_11, sk_12, sl_12, sk_13, sk_14, sl_14, sk_15, sk_40, sk_41, sl_41, sk_330, sl_330, sk_355, sk_356, sl_356, sk_357, sl_357, sk_358, sl_358, sk_359, sl_359, sk_360, sl_360, sk_361, sk_362, sl_362, sk_363, sk_376, sk_377, sl_377, sk_378, sk_379, sl_379, sk_380, sl_380, sk_381, sl_381, sk_382, sl_382, sk_383, sl_383, sk_384, sl_384, sk_385, sl_385, sk_386, sl_386, sk_387, sl_387, sk_388, sl_388, sk_389, sl_389, sk_390, sl_390, sk_391, sl_391, sk_392, sl_392, sk_393, sl_393, sk_394, sl_394, sr_0_0, sr_0_1, sr_0_2, sr_0_3, sr_0_4, sr_0_5, sr_0_6, sr_0_7, sr_0_8, sr_0_9, sr_1_0, sr_1_1, sr_1_2, sr_13_0, sr_15_0, sr_15_2, sr_40_0, sr_355_0, sr_355_1, sr_355_2, sr_355_3, sr_355_4, sr_355_5, sr_361_2, sr_361_5, sr_361_6, sr_363_0, sr_363_1, sr_376_0, sr_376_2, sr_378_0, sr_378_1, sr_378_2, sr_378_4, sr_378_8, sr_378_10, sr_378_11, sr_378_12, sr_378_14, sr_378_20, sr_378_21, sr_378_22, sr_378_23, sr_378_24, sr_378_25, sr_378_26, am_vs, H1, qk, ql, qn, ha, hb2, hk9, n1]
      repeat (first | rw [if_pos (by omega)] | rw [if_neg (by omega)])
      exact ih 1 _ _ _ (Or.inr ⟨rfl, hm1⟩)
    · have e1 : hfT a b c G = G := by unfold hfT; rw [if_neg c1]
      rw [e1] at ih
      by_cases c2 : G b + c < G a
      · have e2 : hfT b a c G = updI G a (G b + c) := by unfold hfT; rw [if_pos c2]
        have hm1 : sm6 (updI G a (G b + c)) < sm6 g := by
          rw [sm6_u (by omega)]
          rcases hm with hm | hm
          · have e := hm.2; rw [e]; rw [e] at c2; omega
          · omega
        rw [e2] at ih
        simp (disch := first | omega | simp only [am_ci, am_cr, am_ca]) only [eX10_sinks_13, eX10_sinks_14, eX10_sinks_17, eX10_sinks_18, eX10_sinks_19, eX10_sinks_22, eX10_sinks_23, eX10_sinks_26, eX10_sinks_27, eX10_sinks_29, eX10_sinks_30, eX10_sinks_31, eX10_sinks_33, eX10_sinks_34, eX10_sinks_37, eX10_sinks_39, eX10_sinks_41, eX10_sinks_42, eX10_sinks_43, eX10_sinks_45, eX10_sinks_46, eX10_sinks_49, eX10_sinks_50, eX10_sinks_52, eX10_sinks_55, eX10_sinks_57, eX10_sinks_58, eX10_sinks_60, eX10_sinks_61, eX10_sinks_63, eX10_sinks_64, eX10_sinks_65, eX10_sinks_67, eX10_sinks_68, eX10_sinks_71, eX10_sinks_72, eX10_sinks_74, eX10_sinks_75, eX10_sinks_77, eX10_sinks_78, eX10_sinks_80, eX10_sinks_81, eX10_sinks_82, eX10_sinks_83, eX10_sinks_84, eX10_sinks_85, eX10_sinks_87, eX10_sinks_88, eX10_sinks_90, eX10_sinks_91, eX10_sinks_92, eX10_sinks_94, eX10_sinks_95, eX10_sinks_98, eX10_sinks_99, eX10_sinks_101, eX10_sinks_102, eX10_sinks_104, eX10_sinks_105, eX10_sinks_107, eX10_sinks_108, eX10_sinks_109, eX10_sinks_110, eX10_sinks_111, eX10_sinks_114, am_bi, Int.reduceEq, Int.reduceLT, Int.reduceLE, Int.reduceToNat, ite_self, Decidable.not_not, not_true_eq_false, not_false_eq_true, ↓reduceIte, am_ci, am_cr, am_ca, am_b0, am_b1, am_ts, am_tn, am_then_some, List.cons_append, List.nil_append, ne_eq, iI_lit, iI_add, iI_sub, iI_mul, iI_neg, iI_lt, iI_le, iI_eq, iI_in, iI_clz, dI_ap, dI_wr, setR_s, wE_R, setR_2, setR_n, setR_o, updI_s, updI_n, updI_2, tl_0, tl_1, tl_2, tl_3, tl_4, tl_5, tl_6, tl_7, tl_8, tl_9, tl_10, tl_11, tl_12, tl_13, tl_14, tl_15, tl_16, tn_3, tn_5, tn_13, tn_21, tn_29, tn_33, tn_37, tn_41, tn_45, tn_49, tn_53, tn_57, tn_61, tn_40, tn_p, tn_0, true_and, and_true, sk_0, sk_1, sk_2, sl_2, sk_3, sl_3, sk_4, sl_4, sk_5, sl_5, sk_6, sl_6, sk_7, sl_7, sk_8, sl_8, sk_9, sl_9, sk_10, sl_10, sk_11, sl_11, sk_12, sl_12, sk_13, sk_14, sl_14, sk_15, sk_40, sk_41, sl_41, sk_330, sl_330, sk_355, sk_356, sl_356, sk_357, sl_357, sk_358, sl_358, sk_359, sl_359, sk_360, sl_360, sk_361, sk_362, sl_362, sk_363, sk_376, sk_377, sl_377, sk_378, sk_379, sl_379, sk_380, sl_380, sk_381, sl_381, sk_382, sl_382, sk_383, sl_383, sk_384, sl_384, sk_385, sl_385, sk_386, sl_386, sk_387, sl_387, sk_388, sl_388, sk_389, sl_389, sk_390, sl_390, sk_391, sl_391, sk_392, sl_392, sk_393, sl_393, sk_394, sl_394, sr_0_0, sr_0_1, sr_0_2, sr_0_3, sr_0_4, sr_0_5, sr_0_6, sr_0_7, sr_0_8, sr_0_9, sr_1_0, sr_1_1, sr_1_2, sr_13_0, sr_15_0, sr_15_2, sr_40_0, sr_355_0, sr_355_1, sr_355_2, sr_355_3, sr_355_4, sr_355_5, sr_361_2, sr_361_5, sr_361_6, sr_363_0, sr_363_1, sr_376_0, sr_376_2, sr_378_0, sr_378_1, sr_378_2, sr_378_4, sr_378_8, sr_378_10, sr_378_11, sr_378_12, sr_378_14, sr_378_20, sr_378_21, sr_378_22, sr_378_23, sr_378_24, sr_378_25, sr_378_26, am_vs, H1, qk, ql, qn, ha, hb2, hk9]
        repeat (first | rw [if_pos (by omega)] | rw [if_neg (by omega)])
        exact ih 1 _ _ _ (Or.inr ⟨rfl, hm1⟩)
      · have e2 : hfT b a c G = G := by unfold hfT; rw [if_neg c2]
        rw [e2] at ih
        simp (disch := first | omega | simp only [am_ci, am_cr, am_ca]) only [eX10_sinks_13, eX10_sinks_14, eX10_sinks_17, eX10_sinks_18, eX10_sinks_19, eX10_sinks_22, eX10_sinks_23, eX10_sinks_26, eX10_sinks_27, eX10_sinks_29, eX10_sinks_30, eX10_sinks_31, eX10_sinks_33, eX10_sinks_34, eX10_sinks_37, eX10_sinks_39, eX10_sinks_41, eX10_sinks_42, eX10_sinks_43, eX10_sinks_45, eX10_sinks_46, eX10_sinks_49, eX10_sinks_50, eX10_sinks_52, eX10_sinks_55, eX10_sinks_57, eX10_sinks_58, eX10_sinks_60, eX10_sinks_61, eX10_sinks_63, eX10_sinks_64, eX10_sinks_65, eX10_sinks_67, eX10_sinks_68, eX10_sinks_71, eX10_sinks_72, eX10_sinks_74, eX10_sinks_75, eX10_sinks_77, eX10_sinks_78, eX10_sinks_80, eX10_sinks_81, eX10_sinks_82, eX10_sinks_83, eX10_sinks_84, eX10_sinks_85, eX10_sinks_87, eX10_sinks_88, eX10_sinks_90, eX10_sinks_91, eX10_sinks_92, eX10_sinks_94, eX10_sinks_95, eX10_sinks_98, eX10_sinks_99, eX10_sinks_101, eX10_sinks_102, eX10_sinks_104, eX10_sinks_105, eX10_sinks_107, eX10_sinks_108, eX10_sinks_109, eX10_sinks_110, eX10_sinks_111, eX10_sinks_114, am_bi, Int.reduceEq, Int.reduceLT, Int.reduceLE, Int.reduceToNat, ite_self, Decidable.not_not, not_true_eq_false, not_false_eq_true, ↓reduceIte, am_ci, am_cr, am_ca, am_b0, am_b1, am_ts, am_tn, am_then_some, List.cons_append, List.nil_append, ne_eq, iI_lit, iI_add, iI_sub, iI_mul, iI_neg, iI_lt, iI_le, iI_eq, iI_in, iI_clz, dI_ap, dI_wr, setR_s, wE_R, setR_2, setR_n, setR_o, updI_s, updI_n, updI_2, tl_0, tl_1, tl_2, tl_3, tl_4, tl_5, tl_6, tl_7, tl_8, tl_9, tl_10, tl_11, tl_12, tl_13, tl_14, tl_15, tl_16, tn_3, tn_5, tn_13, tn_21, tn_29, tn_33, tn_37, tn_41, tn_45, tn_49, tn_53, tn_57, tn_61, tn_40, tn_p, tn_0, true_and, and_true, sk_0, sk_1, sk_2, sl_2, sk_3, sl_3, sk_4, sl_4, sk_5, sl_5, sk_6, sl_6, sk_7, sl_7, sk_8, sl_8, sk_9, sl_9, sk_10, sl_10, sk_11, sl_11, sk_12, sl_12, sk_13, sk_14, sl_14, sk_15, sk_40, sk_41, sl_41, sk_330, sl_330, sk_355, sk_356, sl_356, sk_357, sl_357, sk_358, sl_358, sk_359, sl_359, sk_360, sl_360, sk_361, sk_362, sl_362, sk_363, sk_376, sk_377, sl_377, sk_378, sk_379, sl_379, sk_380, sl_380, sk_381, sl_381, sk_382, sl_382, sk_383, sl_383, sk_384, sl_384, sk_385, sl_385, sk_386, sl_386, sk_387, sl_387, sk_388, sl_388, sk_389, sl_389, sk_390, sl_390, sk_391, sl_391, sk_392, sl_392, sk_393, sl_393, sk_394, sl_394, sr_0_0, sr_0_1, sr_0_2, sr_0_3, sr_0_4, sr_0_5, sr_0_6, sr_0_7, sr_0_8, sr_0_9, sr_1_0, sr_1_1, sr_1_2, sr_13_0, sr_15_0, sr_15_2, sr_40_0, sr_355_0, sr_355_1, sr_355_2, sr_355_3, sr_355_4, sr_355_5, sr_361_2, sr_361_5, sr_361_6, sr_363_0, sr_363_1, sr_376_0, sr_376_2, sr_378_0, sr_378_1, sr_378_2, sr_378_4, sr_378_8, sr_378_10, sr_378_11, sr_378_12, sr_378_14, sr_378_20, sr_378_21, sr_378_22, sr_378_23, sr_378_24, sr_378_25, sr_378_26, am_vs, H1, qk, ql, qn, ha, hb2, hk9]
        repeat (first | rw [if_pos (by omega)] | rw [if_neg (by omega)])
        exact ih m _ _ _ hm
  · intro m v5 v6 v7 hm
    rw [eX10_sinks_11]
    simp (disch := first | omega | simp only [am_ci, am_cr, am_ca]) only [eX10_sinks_13, eX10_sinks_14, eX10_sinks_17, eX10_sinks_18, eX10_sinks_19, eX10_sinks_22, eX10_sinks_23, eX10_sinks_26, eX10_sinks_27, eX10_sinks_29, eX10_sinks_30, eX10_sinks_31, eX10_sinks_33, eX10_sinks_34, eX10_sinks_37, eX10_sinks_39, eX10_sinks_41, eX10_sinks_42, eX10_sinks_43, eX10_sinks_45, eX10_sinks_46, eX10_sinks_49, eX10_sinks_50, eX10_sinks_52, eX10_sinks_55, eX10_sinks_57, eX10_sinks_58, eX10_sinks_60, eX10_sinks_61, eX10_sinks_63, eX10_sinks_64, eX10_sinks_65, eX10_sinks_67, eX10_sinks_68, eX10_sinks_71, eX10_sinks_72, eX10_sinks_74, eX10_sinks_75, eX10_sinks_77, eX10_sinks_78, eX10_sinks_80, eX10_sinks_81, eX10_sinks_82, eX10_sinks_83, eX10_sinks_84, eX10_sinks_85, eX10_sinks_87, eX10_sinks_88, eX10_sinks_90, eX10_sinks_91, eX10_sinks_92, eX10_sinks_94, eX10_sinks_95, eX10_sinks_98, eX10_sinks_99, eX10_sinks_101, eX10_sinks_102, eX10_sinks_104, eX10_sinks_105, eX10_sinks_107, eX10_sinks_108, eX10_sinks_109, eX10_sinks_110, eX10_sinks_111, eX10_sinks_114, eX10_sinks_117, am_bi, Int.reduceEq, Int.reduceLT, Int.reduceLE, Int.reduceToNat, ite_self, Decidable.not_not, not_true_eq_false, not_false_eq_true, ↓reduceIte, am_ci, am_cr, am_ca, am_b0, am_b1, am_ts, am_tn, am_then_some, List.cons_append, List.nil_append, ne_eq, iI_lit, iI_add, iI_sub, iI_mul, iI_neg, iI_lt, iI_le, iI_eq, iI_in, iI_clz, dI_ap, dI_wr, setR_s, wE_R, setR_2, setR_n, setR_o, updI_s, updI_n, updI_2, tl_0, tl_1, tl_2, tl_3, tl_4, tl_5, tl_6, tl_7, tl_8, tl_9, tl_10, tl_11, tl_12, tl_13, tl_14, tl_15, tl_16, tn_3, tn_5, tn_13, tn_21, tn_29, tn_33, tn_37, tn_41, tn_45, tn_49, tn_53, tn_57, tn_61, tn_40, tn_p, tn_0, true_and, and_true, sk_0, sk_1, sk_2, sl_2, sk_3, sl_3, sk_4, sl_4, sk_5, sl_5, sk_6, sl_6, sk_7, sl_7, sk_8, sl_8, sk_9, sl_9, sk_10, sl_10, sk_11, sl_11, sk_12, sl_12, sk_13, sk_14, sl_14, sk_15, sk_40, sk_41, sl_41, sk_330, sl_330, sk_355, sk_356, sl_356, sk_357, sl_357, sk_358, sl_358, sk_359, sl_359, sk_360, sl_360, sk_361, sk_362, sl_362, sk_363, sk_376, sk_377, sl_377, sk_378, sk_379, sl_379, sk_380, sl_380, sk_381, sl_381, sk_382, sl_382, sk_383, sl_383, sk_384, sl_384, sk_385, sl_385, sk_386, sl_386, sk_387, sl_387, sk_388, sl_388, sk_389, sl_389, sk_390, sl_390, sk_391, sl_391, sk_392, sl_392, sk_393, sl_393, sk_394, sl_394, sr_0_0, sr_0_1, sr_0_2, sr_0_3, sr_0_4, sr_0_5, sr_0_6, sr_0_7, sr_0_8, sr_0_9, sr_1_0, sr_1_1, sr_1_2, sr_13_0, sr_15_0, sr_15_2, sr_40_0, sr_355_0, sr_355_1, sr_355_2, sr_355_3, sr_355_4, sr_355_5, sr_361_2, sr_361_5, sr_361_6, sr_363_0, sr_363_1, sr_376_0, sr_376_2, sr_378_0, sr_378_1, sr_378_2, sr_378_4, sr_378_8, sr_378_10, sr_378_11, sr_378_12, sr_378_14, sr_378_20, sr_378_21, sr_378_22, sr_378_23, sr_378_24, sr_378_25, sr_378_26, am_vs, qn, hk9]
    repeat (first | rw [if_pos (by omega)] | rw [if_neg (by omega)])
    exact hR m _ _ _ _ hm
theorem r_sinks {d s q : Nat} {E : Nat → Nat → Int} (hq : q = 391 ∨ q = 392) (hb : bT (E 383)) (hs : s < 4) (hg : gB (E q)) : ∃ n, am_sem (d + 2) 184 [.ref 378, .int (iI s), .ref q] am_S0 (dI E) = some (none, am_S0, dI (setR E q (piT (E 383) (tkT (E 383) s) (E q) n))) ∧ paT (E 383) (tkT (E 383) s) (piT (E 383) (tkT (E 383) s) (E q) n) (E 383 1).toNat = piT (E 383) (tkT (E 383) s) (E q) n := by
  have a1 := hb.2.2.1
  obtain ⟨k9, hk9⟩ := Int.eq_ofNat_of_zero_le a1.1
  have hT : ∀ w, w < 8 → 0 ≤ tkT (E 383) s w ∧ tkT (E 383) s w ≤ 18 := fun w hw => tkT_b (hb.2.2.2.2.2.2.1 w hw).2.2
  have hW : ∀ w, w < 8 → (0 ≤ E 383 (5 + w) ∧ E 383 (5 + w) < 6) ∧ 0 ≤ E 383 (13 + w) ∧ E 383 (13 + w) < 6 := fun w hw => ⟨(hb.2.2.2.2.2.2.1 w hw).1, (hb.2.2.2.2.2.2.1 w hw).2.1⟩
  have base : ∀ g : Nat → Int, gB g → paT (E 383) (tkT (E 383) s) g k9 = g → ∃ n, (∀ v4 v5 v6 v7, am_ev (am_sem (d + 1)) 10 cX10_sinks 2 [.ref 378, .int (iI s), .ref q, .int (iI 1), v4, v5, v6, v7] [] am_S0 (dI (setR E q g)) (none, am_S0, dI (setR E q (piT (E 383) (tkT (E 383) s) g n)))) ∧ paT (E 383) (tkT (E 383) s) (piT (E 383) (tkT (E 383) s) g n) k9 = piT (E 383) (tkT (E 383) s) g n := by
    intro g hg hP
    refine ⟨0, fun v4 v5 v6 v7 => ?_, hP⟩
    rw [eX10_sinks_2]
    simp (disch := first | omega | simp only [am_ci, am_cr, am_ca]) only [eX10_sinks_3, eX10_sinks_6, eX10_sinks_7, eX10_sinks_8, eX10_sinks_9, am_bi, Int.reduceEq, Int.reduceLT, Int.reduceLE, Int.reduceToNat, ite_self, Decidable.not_not, not_true_eq_false, not_false_eq_true, ↓reduceIte, am_ci, am_cr, am_ca, am_b0, am_b1, am_ts, am_tn, am_then_some, List.cons_append, List.nil_append, ne_eq, iI_lit, iI_add, iI_sub, iI_mul, iI_neg, iI_lt, iI_le, iI_eq, iI_in, iI_clz, dI_ap, dI_wr, setR_s, wE_R, setR_2, setR_n, setR_o, updI_s, updI_n, updI_2, tl_0, tl_1, tl_2, tl_3, tl_4, tl_5, tl_6, tl_7, tl_8, tl_9, tl_10, tl_11, tl_12, tl_13, tl_14, tl_15, tl_16, tn_3, tn_5, tn_13, tn_21, tn_29, tn_33, tn_37, tn_41, tn_45, tn_49, tn_53, tn_57, tn_61, tn_40, tn_p, tn_0, true_and, and_true, sk_0, sk_1, sk_2, sl_2, sk_3, sl_3, sk_4, sl_4, sk_5, sl_5, sk_6, sl_6, sk_7, sl_7, sk_8, sl_8, sk_9, sl_9, sk_10, sl_10, sk_11, sl_11, sk_12, sl_12, sk_13, sk_14, sl_14, sk_15, sk_40, sk_41, sl_41, sk_330, sl_330, sk_355, sk_356, sl_356, sk_357, sl_357, sk_358, sl_358, sk_359, sl_359, sk_360, sl_360, sk_361, sk_362, sl_362, sk_363, sk_376, sk_377, sl_377, sk_378, sk_379, sl_379, sk_380, sl_380, sk_381, sl_381, sk_382, sl_382, sk_383, sl_383, sk_384, sl_384, sk_385, sl_385, sk_386, sl_386, sk_387, sl_387, sk_388, sl_388, sk_389, sl_389, sk_390, sl_390, sk_391, sl_391, sk_392, sl_392, sk_393, sl_393, sk_394, sl_394, sr_0_0, sr_0_1, sr_0_2, sr_0_3, sr_0_4, sr_0_5, sr_0_6, sr_0_7, sr_0_8, sr_0_9, sr_1_0, sr_1_1, sr_1_2, sr_13_0, sr_15_0, sr_15_2, sr_40_0, sr_355_0, sr_355_1, sr_355_2, sr_355_3, sr_355_4, sr_355_5, sr_361_2, sr_361_5, sr_361_6, sr_363_0, sr_363_1, sr_376_0, sr_376_2, sr_378_0, sr_378_1, sr_378_2, sr_378_4, sr_378_8, sr_378_10, sr_378_11, sr_378_12, sr_378_14, sr_378_20, sr_378_21, sr_378_22, sr_378_23, sr_378_24, sr_378_25, sr_378_26, am_vs]
    refine r_sinks_i hq hb hs hg hk9 ?_ _ _ _
    intro m v4 v5 v6 v7 hm
    rcases hm with hm | hm
    · rw [hm.1, hP, eX10_sinks_2]
      simp (disch := first | omega | simp only [am_ci, am_cr, am_ca]) only [eX10_sinks_3, eX10_sinks_6, eX10_sinks_7, eX10_sinks_8, eX10_sinks_9, eX10_sinks_13, eX10_sinks_14, eX10_sinks_17, eX10_sinks_18, eX10_sinks_19, eX10_sinks_22, eX10_sinks_23, eX10_sinks_26, eX10_sinks_27, eX10_sinks_29, eX10_sinks_30, eX10_sinks_31, eX10_sinks_33, eX10_sinks_34, eX10_sinks_37, eX10_sinks_39, eX10_sinks_41, eX10_sinks_42, eX10_sinks_43, eX10_sinks_45, eX10_sinks_46, eX10_sinks_49, eX10_sinks_50, eX10_sinks_52, eX10_sinks_55, eX10_sinks_57, eX10_sinks_58, eX10_sinks_60, eX10_sinks_61, eX10_sinks_63, eX10_sinks_64, eX10_sinks_65, eX10_sinks_67, eX10_sinks_68, eX10_sinks_71, eX10_sinks_72, eX10_sinks_74, eX10_sinks_75, eX10_sinks_77, eX10_sinks_78, eX10_sinks_80, eX10_sinks_81, eX10_sinks_82, eX10_sinks_83, eX10_sinks_84, eX10_sinks_85, eX10_sinks_87, eX10_sinks_88, eX10_sinks_90, eX10_sinks_91, eX10_sinks_92, eX10_sinks_94, eX10_sinks_95, eX10_sinks_98, eX10_sinks_99, eX10_sinks_101, eX10_sinks_102, eX10_sinks_104, eX10_sinks_105, eX10_sinks_107, eX10_sinks_108, eX10_sinks_109, eX10_sinks_110, eX10_sinks_111, eX10_sinks_114, eX10_sinks_117, eX10_sinks_120, am_bi, Int.reduceEq, Int.reduceLT, Int.reduceLE, Int.reduceToNat, ite_self, Decidable.not_not, not_true_eq_false, not_false_eq_true, ↓reduceIte, am_ci, am_cr, am_ca, am_b0, am_b1, am_ts, am_tn, am_then_some, List.cons_append, List.nil_append, ne_eq, iI_lit, iI_add, iI_sub, iI_mul, iI_neg, iI_lt, iI_le, iI_eq, iI_in, iI_clz, dI_ap, dI_wr, setR_s, wE_R, setR_2, setR_n, setR_o, updI_s, updI_n, updI_2, tl_0, tl_1, tl_2, tl_3, tl_4, tl_5, tl_6, tl_7, tl_8, tl_9, tl_10, tl_11, tl_12, tl_13, tl_14, tl_15, tl_16, tn_3, tn_5, tn_13, tn_21, tn_29, tn_33, tn_37, tn_41, tn_45, tn_49, tn_53, tn_57, tn_61, tn_40, tn_p, tn_0, true_and, and_true, sk_0, sk_1, sk_2, sl_2, sk_3, sl_3, sk_4, sl_4, sk_5, sl_5, sk_6, sl_6, sk_7, sl_7, sk_8, sl_8, sk_9, sl_9, sk_10, sl_10, sk_11, sl_11, sk_12, sl_12, sk_13, sk_14, sl_14, sk_15, sk_40, sk_41, sl_41, sk_330, sl_330, sk_355, sk_356, sl_356, sk_357, sl_357, sk_358, sl_358, sk_359, sl_359, sk_360, sl_360, sk_361, sk_362, sl_362, sk_363, sk_376, sk_377, sl_377, sk_378, sk_379, sl_379, sk_380, sl_380, sk_381, sl_381, sk_382, sl_382, sk_383, sl_383, sk_384, sl_384, sk_385, sl_385, sk_386, sl_386, sk_387, sl_387, sk_388, sl_388, sk_389, sl_389, sk_390, sl_390, sk_391, sl_391, sk_392, sl_392, sk_393, sl_393, sk_394, sl_394, sr_0_0, sr_0_1, sr_0_2, sr_0_3, sr_0_4, sr_0_5, sr_0_6, sr_0_7, sr_0_8, sr_0_9, sr_1_0, sr_1_1, sr_1_2, sr_13_0, sr_15_0, sr_15_2, sr_40_0, sr_355_0, sr_355_1, sr_355_2, sr_355_3, sr_355_4, sr_355_5, sr_361_2, sr_361_5, sr_361_6, sr_363_0, sr_363_1, sr_376_0, sr_376_2, sr_378_0, sr_378_1, sr_378_2, sr_378_4, sr_378_8, sr_378_10, sr_378_11, sr_378_12, sr_378_14, sr_378_20, sr_378_21, sr_378_22, sr_378_23, sr_378_24, sr_378_25, sr_378_26, am_vs]
      rfl
    · rw [hP] at hm; exfalso; omega
  have key : ∀ (N : Nat) (g : Nat → Int), gB g → sm6 g ≤ N → ∃ n, (∀ v4 v5 v6 v7, am_ev (am_sem (d + 1)) 10 cX10_sinks 2 [.ref 378, .int (iI s), .ref q, .int (iI 1), v4, v5, v6, v7] [] am_S0 (dI (setR E q g)) (none, am_S0, dI (setR E q (piT (E 383) (tkT (E 383) s) g n)))) ∧ paT (E 383) (tkT (E 383) s) (piT (E 383) (tkT (E 383) s) g n) k9 = piT (E 383) (tkT (E 383) s) g n := by
    intro N
    induction N with
    | zero =>
      intro g hg hN
      have hP := paT_d (t := E 383) (dl := tkT (E 383) s) (g := g) hW k9 (by omega)
      have hG := sm6_0 (gB_pa (t := E 383) (dl := tkT (E 383) s) hg hW (fun w hw => (hT w hw).1) k9 (by omega))
      rcases hP with hP | hP
      · exact base g hg hP
      · exfalso; omega
    | succ N ih =>
      intro g hg hN
      have hP := paT_d (t := E 383) (dl := tkT (E 383) s) (g := g) hW k9 (by omega)
      have hG := gB_pa (t := E 383) (dl := tkT (E 383) s) hg hW (fun w hw => (hT w hw).1) k9 (by omega)
      rcases hP with hP | hP
      · exact base g hg hP
      · obtain ⟨n, h1, h2⟩ := ih _ hG (by omega)
        refine ⟨n + 1, fun v4 v5 v6 v7 => ?_, ?_⟩
        · rw [eX10_sinks_2]
          simp (disch := first | omega | simp only [am_ci, am_cr, am_ca]) only [eX10_sinks_3, eX10_sinks_6, eX10_sinks_7, eX10_sinks_8, eX10_sinks_9, am_bi, Int.reduceEq, Int.reduceLT, Int.reduceLE, Int.reduceToNat, ite_self, Decidable.not_not, not_true_eq_false, not_false_eq_true, ↓reduceIte, am_ci, am_cr, am_ca, am_b0, am_b1, am_ts, am_tn, am_then_some, List.cons_append, List.nil_append, ne_eq, iI_lit, iI_add, iI_sub, iI_mul, iI_neg, iI_lt, iI_le, iI_eq, iI_in, iI_clz, dI_ap, dI_wr, setR_s, wE_R, setR_2, setR_n, setR_o, updI_s, updI_n, updI_2, tl_0, tl_1, tl_2, tl_3, tl_4, tl_5, tl_6, tl_7, tl_8, tl_9, tl_10, tl_11, tl_12, tl_13, tl_14, tl_15, tl_16, tn_3, tn_5, tn_13, tn_21, tn_29, tn_33, tn_37, tn_41, tn_45, tn_49, tn_53, tn_57, tn_61, tn_40, tn_p, tn_0, true_and, and_true, sk_0, sk_1, sk_2, sl_2, sk_3, sl_3, sk_4, sl_4, sk_5, sl_5, sk_6, sl_6, sk_7, sl_7, sk_8, sl_8, sk_9, sl_9, sk_10, sl_10, sk_11, sl_11, sk_12, sl_12, sk_13, sk_14, sl_14, sk_15, sk_40, sk_41, sl_41, sk_330, sl_330, sk_355, sk_356, sl_356, sk_357, sl_357, sk_358, sl_358, sk_359, sl_359, sk_360, sl_360, sk_361, sk_362, sl_362, sk_363, sk_376, sk_377, sl_377, sk_378, sk_379, sl_379, sk_380, sl_380, sk_381, sl_381, sk_382, sl_382, sk_383, sl_383, sk_384, sl_384, sk_385, sl_385, sk_386, sl_386, sk_387, sl_387, sk_388, sl_388, sk_389, sl_389, sk_390, sl_390, sk_391, sl_391, sk_392, sl_392, sk_393, sl_393, sk_394, sl_394, sr_0_0, sr_0_1, sr_0_2, sr_0_3, sr_0_4, sr_0_5, sr_0_6, sr_0_7, sr_0_8, sr_0_9, sr_1_0, sr_1_1, sr_1_2, sr_13_0, sr_15_0, sr_15_2, sr_40_0, sr_355_0, sr_355_1, sr_355_2, sr_355_3, sr_355_4, sr_355_5, sr_361_2, sr_361_5, sr_361_6, sr_363_0, sr_363_1, sr_376_0, sr_376_2, sr_378_0, sr_378_1, sr_378_2, sr_378_4, sr_378_8, sr_378_10, sr_378_11, sr_378_12, sr_378_14, sr_378_20, sr_378_21, sr_378_22, sr_378_23, sr_378_24, sr_378_25, sr_378_26, am_vs]
          rw [piT_s, hk9]
          refine r_sinks_i hq hb hs hg hk9 ?_ _ _ _
          intro m v4 v5 v6 v7 hm
          rcases hm with hm | hm
          · rw [hm.2] at hP; exfalso; omega
          · rw [hm.1]; exact h1 _ _ _ _
        · rw [piT_s, hk9]; exact h2
  obtain ⟨n, h1, h2⟩ := key (sm6 (E q)).toNat (E q) hg (by have := sm6_0 hg; omega)
  refine ⟨n, ?_, by rw [hk9]; exact h2⟩
  refine mX10_sinks rfl rfl ?_
  simp (disch := first | omega | simp only [am_ci, am_cr, am_ca]) only [eX10_sinks_0, eX10_sinks_1, am_bi, Int.reduceEq, Int.reduceLT, Int.reduceLE, Int.reduceToNat, ite_self, Decidable.not_not, not_true_eq_false, not_false_eq_true, ↓reduceIte, am_ci, am_cr, am_ca, am_b0, am_b1, am_ts, am_tn, am_then_some, List.cons_append, List.nil_append, ne_eq, iI_lit, iI_add, iI_sub, iI_mul, iI_neg, iI_lt, iI_le, iI_eq, iI_in, iI_clz, dI_ap, dI_wr, setR_s, wE_R, setR_2, setR_n, setR_o, updI_s, updI_n, updI_2, tl_0, tl_1, tl_2, tl_3, tl_4, tl_5, tl_6, tl_7, tl_8, tl_9, tl_10, tl_11, tl_12, tl_13, tl_14, tl_15, tl_16, tn_3, tn_5, tn_13, tn_21, tn_29, tn_33, tn_37, tn_41, tn_45, tn_49, tn_53, tn_57, tn_61, tn_40, tn_p, tn_0, true_and, and_true, sk_0, sk_1, sk_2, sl_2, sk_3, sl_3, sk_4, sl_4, sk_5, sl_5, sk_6, sl_6, sk_7, sl_7, sk_8, sl_8, sk_9, sl_9, sk_10, sl_10, sk_11, sl_11, sk_12, sl_12, sk_13, sk_14, sl_14, sk_15, sk_40, sk_41, sl_41, sk_330, sl_330, sk_355, sk_356, sl_356, sk_357, sl_357, sk_358, sl_358, sk_359, sl_359, sk_360, sl_360, sk_361, sk_362, sl_362, sk_363, sk_376, sk_377, sl_377, sk_378, sk_379, sl_379, sk_380, sl_380, sk_381, sl_381, sk_382, sl_382, sk_383, sl_383, sk_384, sl_384, sk_385, sl_385, sk_386, sl_386, sk_387, sl_387, sk_388, sl_388, sk_389, sl_389, sk_390, sl_390, sk_391, sl_391, sk_392, sl_392, sk_393, sl_393, sk_394, sl_394, sr_0_0, sr_0_1, sr_0_2, sr_0_3, sr_0_4, sr_0_5, sr_0_6, sr_0_7, sr_0_8, sr_0_9, sr_1_0, sr_1_1, sr_1_2, sr_13_0, sr_15_0, sr_15_2, sr_40_0, sr_355_0, sr_355_1, sr_355_2, sr_355_3, sr_355_4, sr_355_5, sr_361_2, sr_361_5, sr_361_6, sr_363_0, sr_363_1, sr_376_0, sr_376_2, sr_378_0, sr_378_1, sr_378_2, sr_378_4, sr_378_8, sr_378_10, sr_378_11, sr_378_12, sr_378_14, sr_378_20, sr_378_21, sr_378_22, sr_378_23, sr_378_24, sr_378_25, sr_378_26, am_vs]
  have h3 := h1 (.retAddr 0) (.retAddr 0) (.retAddr 0) (.retAddr 0)
  rw [setR_e] at h3
  exact h3
