/-! ===== the class: leagues copied, sailing, beginning, what the reader does to a league ===== -/
theorem dI_cp (E : Nat → Nat → Int) (a sp b dp n : Nat) : am_cp (dI E) a sp b dp n = dI (setR E b (cpT (E a) sp (E b) dp n)) := by
  funext q i
  unfold am_cp va_cpy dI setR cpT
  by_cases h : q = b
  · subst h
    rw [if_pos rfl, if_pos rfl]
    split <;> rfl
  · rw [if_neg h, if_neg h]
def bcE (E : Nat → Nat → Int) (a b : Nat) : Nat → Nat → Int := setR (setR (setR (setR (setR (setR (setR (setR (setR (setR (setR (setR E a (updI (updI (updI (updI (updI (E a) 0 (E b 0)) 1 (E b 1)) 2 (E b 2)) 3 (E b 3)) 4 (E b 4))) (a + 1) (cpT (E (b + 1)) 0 (E (a + 1)) 0 8)) (a + 2) (cpT (E (b + 2)) 0 (E (a + 2)) 0 8)) (a + 3) (cpT (E (b + 3)) 0 (E (a + 3)) 0 8)) (a + 4) (cpT (E (b + 4)) 0 (E (a + 4)) 0 4)) (a + 5) (cpT (E (b + 5)) 0 (E (a + 5)) 0 4)) (a + 6) (cpT (E (b + 6)) 0 (E (a + 6)) 0 4)) (a + 7) (cpT (E (b + 7)) 0 (E (a + 7)) 0 4)) (a + 8) (cpT (E (b + 8)) 0 (E (a + 8)) 0 4)) (a + 9) (cpT (E (b + 9)) 0 (E (a + 9)) 0 4)) (a + 10) (cpT (E (b + 10)) 0 (E (a + 10)) 0 4)) (a + 11) (cpT (E (b + 11)) 0 (E (a + 11)) 0 24)
theorem c_become {d a b : Nat} {E : Nat → Nat → Int} (h : am_lg a) (g : am_lg b) (hab : b + 11 < a ∨ a + 11 < b) : am_sem (d + 1) 34 [.ref a, .ref b] am_S0 (dI E) = some (none, am_S0, dI (bcE E a b)) := by
  refine mX3_become rfl rfl ?_
  unfold bcE
  simp (disch := first | omega | simp only [am_ci, am_cr, am_ca]) only [eX3_become_0, eX3_become_1, eX3_become_2, eX3_become_5, eX3_become_8, eX3_become_9, eX3_become_10, eX3_become_13, eX3_become_16, eX3_become_17, eX3_become_18, eX3_become_21, eX3_become_24, eX3_become_25, eX3_become_26, eX3_become_29, eX3_become_32, eX3_become_33, eX3_become_34, eX3_become_37, eX3_become_40, eX3_become_41, eX3_become_44, eX3_become_45, eX3_become_46, eX3_become_49, eX3_become_50, eX3_become_52, eX3_become_55, eX3_become_56, eX3_become_59, eX3_become_60, eX3_become_61, eX3_become_64, eX3_become_65, eX3_become_67, eX3_become_70, eX3_become_71, eX3_become_74, eX3_become_75, eX3_become_76, eX3_become_79, eX3_become_80, eX3_become_82, eX3_become_85, eX3_become_86, eX3_become_89, eX3_become_90, eX3_become_91, eX3_become_94, eX3_become_95, eX3_become_96, eX3_become_99, eX3_become_100, eX3_become_103, eX3_become_104, eX3_become_105, eX3_become_108, eX3_become_109, eX3_become_110, eX3_become_113, eX3_become_114, eX3_become_117, eX3_become_118, eX3_become_119, eX3_become_122, eX3_become_123, eX3_become_124, eX3_become_127, eX3_become_128, eX3_become_131, eX3_become_132, eX3_become_133, eX3_become_136, eX3_become_137, eX3_become_138, eX3_become_141, eX3_become_142, eX3_become_145, eX3_become_146, eX3_become_147, eX3_become_150, eX3_become_151, eX3_become_152, eX3_become_155, eX3_become_156, eX3_become_159, eX3_become_160, eX3_become_161, eX3_become_164, eX3_become_165, eX3_become_166, eX3_become_169, eX3_become_170, eX3_become_173, eX3_become_174, eX3_become_175, eX3_become_178, eX3_become_179, eX3_become_180, eX3_become_183, eX3_become_184, eX3_become_187, eX3_become_188, eX3_become_189, eX3_become_192, eX3_become_193, eX3_become_195, eX3_become_198, am_bi, Int.reduceEq, Int.reduceLT, Int.reduceLE, Int.reduceToNat, ite_self, Decidable.not_not, not_true_eq_false, not_false_eq_true, ↓reduceIte, am_ci, am_cr, am_ca, am_b0, am_b1, am_ts, am_tn, am_then_some, List.cons_append, List.nil_append, ne_eq, iI_lit, iI_add, iI_sub, iI_mul, iI_neg, iI_lt, iI_le, iI_eq, iI_in, iI_clz, dI_ap, dI_wr, setR_s, wE_R, setR_2, setR_n, setR_o, updI_s, updI_n, updI_2, tl_0, tl_1, tl_2, tl_3, tl_4, tl_5, tl_6, tl_7, tl_8, tl_9, tl_10, tl_11, tl_12, tl_13, tl_14, tl_15, tl_16, tn_3, tn_5, tn_13, tn_21, tn_29, tn_33, tn_37, tn_41, tn_45, tn_49, tn_53, tn_57, tn_61, tn_40, tn_p, tn_0, true_and, and_true, sk_0, sk_1, sk_2, sl_2, sk_3, sl_3, sk_4, sl_4, sk_5, sl_5, sk_6, sl_6, sk_7, sl_7, sk_8, sl_8, sk_9, sl_9, sk_10, sl_10, sk_11, sl_11, sk_12, sl_12, sk_13, sk_14, sl_14, sk_15, sk_40, sk_41, sl_41, sk_330, sl_330, sk_355, sk_356, sl_356, sk_357, sl_357, sk_358, sl_358, sk_359, sl_359, sk_360, sl_360, sk_361, sk_362, sl_362, sk_363, sk_376, sk_377, sl_377, sk_378, sk_379, sl_379, sk_380, sl_380, sk_381, sl_381, sk_382, sl_382, sk_383, sl_383, sk_384, sl_384, sk_385, sl_385, sk_386, sl_386, sk_387, sl_387, sk_388, sl_388, sk_389, sl_389, sk_390, sl_390, sk_391, sl_391, sk_392, sl_392, sk_393, sl_393, sk_394, sl_394, sr_0_0, sr_0_1, sr_0_2, sr_0_3, sr_0_4, sr_0_5, sr_0_6, sr_0_7, sr_0_8, sr_0_9, sr_1_0, sr_1_1, sr_1_2, sr_13_0, sr_15_0, sr_15_2, sr_40_0, sr_355_0, sr_355_1, sr_355_2, sr_355_3, sr_355_4, sr_355_5, sr_361_2, sr_361_5, sr_361_6, sr_363_0, sr_363_1, sr_376_0, sr_376_2, sr_378_0, sr_378_1, sr_378_2, sr_378_4, sr_378_8, sr_378_10, sr_378_11, sr_378_12, sr_378_14, sr_378_20, sr_378_21, sr_378_22, sr_378_23, sr_378_24, sr_378_25, sr_378_26, am_vs, dI_cp, List.length_nil, Nat.zero_le, Nat.zero_add, Nat.le_refl, Int.lt_irrefl, h.k, h.k1, h.r1, h.l1, h.k2, h.r2, h.l2, h.k3, h.r3, h.l3, h.k4, h.r4, h.l4, h.k5, h.r5, h.l5, h.k6, h.r6, h.l6, h.k7, h.r7, h.l7, h.k8, h.r8, h.l8, h.k9, h.r9, h.l9, h.k10, h.r10, h.l10, h.k11, h.r11, h.l11, g.k, g.k1, g.r1, g.l1, g.k2, g.r2, g.l2, g.k3, g.r3, g.l3, g.k4, g.r4, g.l4, g.k5, g.r5, g.l5, g.k6, g.r6, g.l6, g.k7, g.r7, g.l7, g.k8, g.r8, g.l8, g.k9, g.r9, g.l9, g.k10, g.r10, g.l10, g.k11, g.r11, g.l11]
theorem bcE_fr (E : Nat → Nat → Int) (a b : Nat) : frL E (bcE E a b) a := by
  unfold bcE
  intro q hq
  simp (disch := omega) only [setR_n]
theorem bcE_0 {E : Nat → Nat → Int} {a b : Nat} : bcE E a b a 0 = E b 0 ∧ bcE E a b a 1 = E b 1 ∧ bcE E a b a 2 = E b 2 ∧ bcE E a b a 3 = E b 3 ∧ bcE E a b a 4 = E b 4 := by
  unfold bcE
  simp (disch := omega) only [setR_n, setR_s, updI_s, updI_n, and_self]
theorem bcE_1 {E : Nat → Nat → Int} {a b i : Nat} (hi : i < 8) : bcE E a b (a + 1) i = E (b + 1) i := by
  unfold bcE
  simp (disch := omega) only [setR_n, setR_s]
  unfold cpT
  rw [if_pos (by omega), show 0 + (i - 0) = i by omega]
theorem bcE_2 {E : Nat → Nat → Int} {a b i : Nat} (hi : i < 8) : bcE E a b (a + 2) i = E (b + 2) i := by
  unfold bcE
  simp (disch := omega) only [setR_n, setR_s]
  unfold cpT
  rw [if_pos (by omega), show 0 + (i - 0) = i by omega]
theorem bcE_3 {E : Nat → Nat → Int} {a b i : Nat} (hi : i < 8) : bcE E a b (a + 3) i = E (b + 3) i := by
  unfold bcE
  simp (disch := omega) only [setR_n, setR_s]
  unfold cpT
  rw [if_pos (by omega), show 0 + (i - 0) = i by omega]
theorem bcE_4 {E : Nat → Nat → Int} {a b i : Nat} (hi : i < 4) : bcE E a b (a + 4) i = E (b + 4) i := by
  unfold bcE
  simp (disch := omega) only [setR_n, setR_s]
  unfold cpT
  rw [if_pos (by omega), show 0 + (i - 0) = i by omega]
theorem bcE_5 {E : Nat → Nat → Int} {a b i : Nat} (hi : i < 4) : bcE E a b (a + 5) i = E (b + 5) i := by
  unfold bcE
  simp (disch := omega) only [setR_n, setR_s]
  unfold cpT
  rw [if_pos (by omega), show 0 + (i - 0) = i by omega]
theorem bcE_6 {E : Nat → Nat → Int} {a b i : Nat} (hi : i < 4) : bcE E a b (a + 6) i = E (b + 6) i := by
  unfold bcE
  simp (disch := omega) only [setR_n, setR_s]
  unfold cpT
  rw [if_pos (by omega), show 0 + (i - 0) = i by omega]
theorem bcE_7 {E : Nat → Nat → Int} {a b i : Nat} (hi : i < 4) : bcE E a b (a + 7) i = E (b + 7) i := by
  unfold bcE
  simp (disch := omega) only [setR_n, setR_s]
  unfold cpT
  rw [if_pos (by omega), show 0 + (i - 0) = i by omega]
theorem bcE_8 {E : Nat → Nat → Int} {a b i : Nat} (hi : i < 4) : bcE E a b (a + 8) i = E (b + 8) i := by
  unfold bcE
  simp (disch := omega) only [setR_n, setR_s]
  unfold cpT
  rw [if_pos (by omega), show 0 + (i - 0) = i by omega]
theorem bcE_9 {E : Nat → Nat → Int} {a b i : Nat} (hi : i < 4) : bcE E a b (a + 9) i = E (b + 9) i := by
  unfold bcE
  simp (disch := omega) only [setR_n, setR_s]
  unfold cpT
  rw [if_pos (by omega), show 0 + (i - 0) = i by omega]
theorem bcE_10 {E : Nat → Nat → Int} {a b i : Nat} (hi : i < 4) : bcE E a b (a + 10) i = E (b + 10) i := by
  unfold bcE
  simp (disch := omega) only [setR_n, setR_s]
  unfold cpT
  rw [if_pos (by omega), show 0 + (i - 0) = i by omega]
theorem bcE_11 {E : Nat → Nat → Int} {a b i : Nat} (hi : i < 24) : bcE E a b (a + 11) i = E (b + 11) i := by
  unfold bcE
  simp (disch := omega) only [setR_n, setR_s]
  unfold cpT
  rw [if_pos (by omega), show 0 + (i - 0) = i by omega]
theorem RL0_bc {E : Nat → Nat → Int} {a b : Nat} {t : Nat → Int} (h : RL0 E b t) : RL0 (bcE E a b) a t := by
  obtain ⟨h0, h1, h2, h3, h4⟩ := h
  obtain ⟨c0, c1, c2, c3, c4⟩ := bcE_0 (E := E) (a := a) (b := b)
  refine ⟨by rw [c0, c1, c2, c3, c4]; exact h0, fun w hw hw2 => ?_, fun s hs hs2 => ?_, fun n hn hn2 => ?_, fun i hi => ?_⟩
  · rw [bcE_1 hw, bcE_2 hw, bcE_3 hw]; exact h1 w hw hw2
  · rw [bcE_4 hs, bcE_5 hs, bcE_7 hs, bcE_8 hs]; exact h2 s hs hs2
  · rw [bcE_9 hn, bcE_10 hn]; exact h3 n hn hn2
  · rw [bcE_11 hi]; exact h4 i hi
theorem RD_bc {E : Nat → Nat → Int} {a b : Nat} {t : Nat → Int} (h : RD E b t) : RD (bcE E a b) a t := by
  intro s hs hs2
  rw [bcE_6 hs]; exact h s hs hs2
def flT (f : Nat → Int) (z : Int) (k : Nat) : Nat → Int := fun i => if i < k then z else f i
theorem flT_s (f : Nat → Int) (z : Int) (k : Nat) : updI (flT f z k) k z = flT f z (k + 1) := by
  funext x
  unfold updI flT
  by_cases h : x = k
  · subst h; rw [if_pos rfl, if_pos (by omega)]
  · rw [if_neg h]
    by_cases h2 : x < k
    · rw [if_pos h2, if_pos (by omega)]
    · rw [if_neg h2, if_neg (by omega)]
theorem j_fill {d q L : Nat} {z : Int} {E : Nat → Nat → Int} (hk : am_kd am_S0 q = 1) (hl : am_ln am_S0 q = L) (hL : L < 100000) : am_sem (d + 1) 211 [.ref q, .int (iI z)] am_S0 (dI E) = some (none, am_S0, dI (setR E q (flT (E q) z L))) := by
  refine mJ7_fill_53178 rfl rfl ?_
  simp (disch := first | omega | simp only [am_ci, am_cr, am_ca]) only [eJ7_fill_53178_0, eJ7_fill_53178_1, eJ7_fill_53178_2, eJ7_fill_53178_3, eJ7_fill_53178_4, am_bi, Int.reduceEq, Int.reduceLT, Int.reduceLE, Int.reduceToNat, ite_self, Decidable.not_not, not_true_eq_false, not_false_eq_true, ↓reduceIte, am_ci, am_cr, am_ca, am_b0, am_b1, am_ts, am_tn, am_then_some, List.cons_append, List.nil_append, ne_eq, iI_lit, iI_add, iI_sub, iI_mul, iI_neg, iI_lt, iI_le, iI_eq, iI_in, iI_clz, dI_ap, dI_wr, setR_s, wE_R, setR_2, setR_n, setR_o, updI_s, updI_n, updI_2, tl_0, tl_1, tl_2, tl_3, tl_4, tl_5, tl_6, tl_7, tl_8, tl_9, tl_10, tl_11, tl_12, tl_13, tl_14, tl_15, tl_16, tn_3, tn_5, tn_13, tn_21, tn_29, tn_33, tn_37, tn_41, tn_45, tn_49, tn_53, tn_57, tn_61, tn_40, tn_p, tn_0, true_and, and_true, sk_0, sk_1, sk_2, sl_2, sk_3, sl_3, sk_4, sl_4, sk_5, sl_5, sk_6, sl_6, sk_7, sl_7, sk_8, sl_8, sk_9, sl_9, sk_10, sl_10, sk_11, sl_11, sk_12, sl_12, sk_13, sk_14, sl_14, sk_15, sk_40, sk_41, sl_41, sk_330, sl_330, sk_355, sk_356, sl_356, sk_357, sl_357, sk_358, sl_358, sk_359, sl_359, sk_360, sl_360, sk_361, sk_362, sl_362, sk_363, sk_376, sk_377, sl_377, sk_378, sk_379, sl_379, sk_380, sl_380, sk_381, sl_381, sk_382, sl_382, sk_383, sl_383, sk_384, sl_384, sk_385, sl_385, sk_386, sl_386, sk_387, sl_387, sk_388, sl_388, sk_389, sl_389, sk_390, sl_390, sk_391, sl_391, sk_392, sl_392, sk_393, sl_393, sk_394, sl_394, sr_0_0, sr_0_1, sr_0_2, sr_0_3, sr_0_4, sr_0_5, sr_0_6, sr_0_7, sr_0_8, sr_0_9, sr_1_0, sr_1_1, sr_1_2, sr_13_0, sr_15_0, sr_15_2, sr_40_0, sr_355_0, sr_355_1, sr_355_2, sr_355_3, sr_355_4, sr_355_5, sr_361_2, sr_361_5, sr_361_6, sr_363_0, sr_363_1, sr_376_0, sr_376_2, sr_378_0, sr_378_1, sr_378_2, sr_378_4, sr_378_8, sr_378_10, sr_378_11, sr_378_12, sr_378_14, sr_378_20, sr_378_21, sr_378_22, sr_378_23, sr_378_24, sr_378_25, sr_378_26, am_vs, hk, hl, iI_nI]
  have h0 := am_loop (P := fun k => am_ev (am_sem d) 13 cJ7_fill_53178 5 [.ref q, .int (iI z), .int (iI k), .int (iI L)] [] am_S0 (dI (setR E q (flT (E q) z k))) (none, am_S0, dI (setR E q (flT (E q) z L)))) (n := L) ?_ ?_ (k := 0) (by omega)
  · have e : flT (E q) z 0 = E q := by funext x; unfold flT; rw [if_neg (by omega)]
    rw [e, setR_e] at h0
    exact h0
  · intro k hk2 ih
    rw [eJ7_fill_53178_5]
    simp (disch := first | omega | simp only [am_ci, am_cr, am_ca]) only [eJ7_fill_53178_6, eJ7_fill_53178_7, eJ7_fill_53178_10, eJ7_fill_53178_11, eJ7_fill_53178_12, eJ7_fill_53178_13, eJ7_fill_53178_14, eJ7_fill_53178_17, am_bi, Int.reduceEq, Int.reduceLT, Int.reduceLE, Int.reduceToNat, ite_self, Decidable.not_not, not_true_eq_false, not_false_eq_true, ↓reduceIte, am_ci, am_cr, am_ca, am_b0, am_b1, am_ts, am_tn, am_then_some, List.cons_append, List.nil_append, ne_eq, iI_lit, iI_add, iI_sub, iI_mul, iI_neg, iI_lt, iI_le, iI_eq, iI_in, iI_clz, dI_ap, dI_wr, setR_s, wE_R, setR_2, setR_n, setR_o, updI_s, updI_n, updI_2, tl_0, tl_1, tl_2, tl_3, tl_4, tl_5, tl_6, tl_7, tl_8, tl_9, tl_10, tl_11, tl_12, tl_13, tl_14, tl_15, tl_16, tn_3, tn_5, tn_13, tn_21, tn_29, tn_33, tn_37, tn_41, tn_45, tn_49, tn_53, tn_57, tn_61, tn_40, tn_p, tn_0, true_and, and_true, sk_0, sk_1, sk_2, sl_2, sk_3, sl_3, sk_4, sl_4, sk_5, sl_5, sk_6, sl_6, sk_7, sl_7, sk_8, sl_8, sk_9, sl_9, sk_10, sl_10, sk_11, sl_11, sk_12, sl_12, sk_13, sk_14, sl_14, sk_15, sk_40, sk_41, sl_41, sk_330, sl_330, sk_355, sk_356, sl_356, sk_357, sl_357, sk_358, sl_358, sk_359, sl_359, sk_360, sl_360, sk_361, sk_362, sl_362, sk_363, sk_376, sk_377, sl_377, sk_378, sk_379, sl_379, sk_380, sl_380, sk_381, sl_381, sk_382, sl_382, sk_383, sl_383, sk_384, sl_384, sk_385, sl_385, sk_386, sl_386, sk_387, sl_387, sk_388, sl_388, sk_389, sl_389, sk_390, sl_390, sk_391, sl_391, sk_392, sl_392, sk_393, sl_393, sk_394, sl_394, sr_0_0, sr_0_1, sr_0_2, sr_0_3, sr_0_4, sr_0_5, sr_0_6, sr_0_7, sr_0_8, sr_0_9, sr_1_0, sr_1_1, sr_1_2, sr_13_0, sr_15_0, sr_15_2, sr_40_0, sr_355_0, sr_355_1, sr_355_2, sr_355_3, sr_355_4, sr_355_5, sr_361_2, sr_361_5, sr_361_6, sr_363_0, sr_363_1, sr_376_0, sr_376_2, sr_378_0, sr_378_1, sr_378_2, sr_378_4, sr_378_8, sr_378_10, sr_378_11, sr_378_12, sr_378_14, sr_378_20, sr_378_21, sr_378_22, sr_378_23, sr_378_24, sr_378_25, sr_378_26, am_vs, hk, hl, flT_s]
    rw [if_neg (by omega)]
    exact ih
  · rw [eJ7_fill_53178_5]
    simp (disch := first | omega | simp only [am_ci, am_cr, am_ca]) only [eJ7_fill_53178_6, eJ7_fill_53178_7, eJ7_fill_53178_10, eJ7_fill_53178_11, eJ7_fill_53178_12, eJ7_fill_53178_13, eJ7_fill_53178_14, eJ7_fill_53178_17, eJ7_fill_53178_20, am_bi, Int.reduceEq, Int.reduceLT, Int.reduceLE, Int.reduceToNat, ite_self, Decidable.not_not, not_true_eq_false, not_false_eq_true, ↓reduceIte, am_ci, am_cr, am_ca, am_b0, am_b1, am_ts, am_tn, am_then_some, List.cons_append, List.nil_append, ne_eq, iI_lit, iI_add, iI_sub, iI_mul, iI_neg, iI_lt, iI_le, iI_eq, iI_in, iI_clz, dI_ap, dI_wr, setR_s, wE_R, setR_2, setR_n, setR_o, updI_s, updI_n, updI_2, tl_0, tl_1, tl_2, tl_3, tl_4, tl_5, tl_6, tl_7, tl_8, tl_9, tl_10, tl_11, tl_12, tl_13, tl_14, tl_15, tl_16, tn_3, tn_5, tn_13, tn_21, tn_29, tn_33, tn_37, tn_41, tn_45, tn_49, tn_53, tn_57, tn_61, tn_40, tn_p, tn_0, true_and, and_true, sk_0, sk_1, sk_2, sl_2, sk_3, sl_3, sk_4, sl_4, sk_5, sl_5, sk_6, sl_6, sk_7, sl_7, sk_8, sl_8, sk_9, sl_9, sk_10, sl_10, sk_11, sl_11, sk_12, sl_12, sk_13, sk_14, sl_14, sk_15, sk_40, sk_41, sl_41, sk_330, sl_330, sk_355, sk_356, sl_356, sk_357, sl_357, sk_358, sl_358, sk_359, sl_359, sk_360, sl_360, sk_361, sk_362, sl_362, sk_363, sk_376, sk_377, sl_377, sk_378, sk_379, sl_379, sk_380, sl_380, sk_381, sl_381, sk_382, sl_382, sk_383, sl_383, sk_384, sl_384, sk_385, sl_385, sk_386, sl_386, sk_387, sl_387, sk_388, sl_388, sk_389, sl_389, sk_390, sl_390, sk_391, sl_391, sk_392, sl_392, sk_393, sl_393, sk_394, sl_394, sr_0_0, sr_0_1, sr_0_2, sr_0_3, sr_0_4, sr_0_5, sr_0_6, sr_0_7, sr_0_8, sr_0_9, sr_1_0, sr_1_1, sr_1_2, sr_13_0, sr_15_0, sr_15_2, sr_40_0, sr_355_0, sr_355_1, sr_355_2, sr_355_3, sr_355_4, sr_355_5, sr_361_2, sr_361_5, sr_361_6, sr_363_0, sr_363_1, sr_376_0, sr_376_2, sr_378_0, sr_378_1, sr_378_2, sr_378_4, sr_378_8, sr_378_10, sr_378_11, sr_378_12, sr_378_14, sr_378_20, sr_378_21, sr_378_22, sr_378_23, sr_378_24, sr_378_25, sr_378_26, am_vs]
    rw [if_pos (by omega)]
    trivial
