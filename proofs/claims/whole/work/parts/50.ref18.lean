/-! ===== the reference: how long signals take ===== -/
theorem iI_dv {a d : Int} (h : 0 ≤ a) (h2 : a < 2147483648) (h3 : 1 ≤ d) (h4 : d < 2147483648) : iI a / iI d = iI (a / d) := by
  obtain ⟨n, rfl⟩ := Int.eq_ofNat_of_zero_le h
  obtain ⟨m, rfl⟩ := Int.eq_ofNat_of_zero_le (show 0 ≤ d by omega)
  have e := pk_div (a := n) (d := m) (by omega) (by omega) (by omega)
  rw [iI_nI, iI_nI, iI_nI] at e
  exact e
/-- the table at its start -/
def s0T (g : Nat → Int) (k : Nat) : Nat → Int := fun x => if x < k then (if x % 7 = 0 then 0 else 1000000) else g x
theorem s0T_s (g : Nat → Int) (k : Nat) : updI (s0T g k) k (if k % 7 = 0 then 0 else 1000000) = s0T g (k + 1) := by
  funext x
  unfold updI s0T
  by_cases h : x = k
  · subst h; rw [if_pos rfl, if_pos (show x < x + 1 by omega)]
  · rw [if_neg h]
    by_cases h2 : x < k
    · rw [if_pos h2, if_pos (show x < k + 1 by omega)]
    · rw [if_neg h2, if_neg (show ¬ x < k + 1 by omega)]
def mnI (x y : Int) : Int := if x < y then x else y
/-- with the first k ways -/
def swT (t g : Nat → Int) : Nat → Nat → Int
  | 0 => g
  | k + 1 => updI (updI (swT t g k) (6 * (t (5 + k)).toNat + (t (13 + k)).toNat) (mnI (3 * t (21 + k)) (swT t g k (6 * (t (5 + k)).toNat + (t (13 + k)).toNat)))) (6 * (t (13 + k)).toNat + (t (5 + k)).toNat) (mnI (3 * t (21 + k)) (swT t g k (6 * (t (5 + k)).toNat + (t (13 + k)).toNat)))
theorem swT_s (t g : Nat → Int) (k : Nat) : swT t g (k + 1) = updI (updI (swT t g k) (6 * (t (5 + k)).toNat + (t (13 + k)).toNat) (mnI (3 * t (21 + k)) (swT t g k (6 * (t (5 + k)).toNat + (t (13 + k)).toNat)))) (6 * (t (13 + k)).toNat + (t (5 + k)).toNat) (mnI (3 * t (21 + k)) (swT t g k (6 * (t (5 + k)).toNat + (t (13 + k)).toNat))) := rfl
/-- by way of port c, the first k places -/
def sfT (c : Nat) (g : Nat → Int) : Nat → Nat → Int
  | 0 => g
  | k + 1 => updI (sfT c g k) k (mnI (sfT c g k (6 * (k / 6) + c) + sfT c g k (6 * c + k % 6)) (sfT c g k k))
theorem sfT_s (c : Nat) (g : Nat → Int) (k : Nat) : sfT c g (k + 1) = updI (sfT c g k) k (mnI (sfT c g k (6 * (k / 6) + c) + sfT c g k (6 * c + k % 6)) (sfT c g k k)) := rfl
/-- by way of the first c ports -/
def scF (g : Nat → Int) : Nat → Nat → Int
  | 0 => g
  | c + 1 => sfT c (scF g c) 36
theorem scF_s (g : Nat → Int) (c : Nat) : scF g (c + 1) = sfT c (scF g c) 36 := rfl
/-- the table of signals -/
def sgT (t g : Nat → Int) : Nat → Int := scF (swT t (s0T g 36) (t 1).toNat) 6
def hB (g : Nat → Int) : Prop := ∀ k, k < 36 → 0 ≤ g k ∧ g k ≤ 1000000
theorem hB_u {g : Nat → Int} (h : hB g) {k : Nat} {z : Int} (hz : 0 ≤ z ∧ z ≤ 1000000) : hB (updI g k z) := by
  intro x hx
  unfold updI
  split
  · exact hz
  · exact h x hx
theorem hB_0 (g : Nat → Int) : hB (s0T g 36) := by
  intro x hx
  unfold s0T
  rw [if_pos hx]
  split <;> omega
theorem hB_w {t g : Nat → Int} (h : hB g) (hb : bT t) : ∀ k, k ≤ 8 → hB (swT t g k)
  | 0, _ => h
  | k + 1, hk => by
    have ih := hB_w h hb k (by omega)
    obtain ⟨w5, w13, w21⟩ := hb.2.2.2.2.2.2.1 k (by omega)
    have b := ih (6 * (t (5 + k)).toNat + (t (13 + k)).toNat) (by omega)
    have m : 0 ≤ mnI (3 * t (21 + k)) (swT t g k (6 * (t (5 + k)).toNat + (t (13 + k)).toNat)) ∧ mnI (3 * t (21 + k)) (swT t g k (6 * (t (5 + k)).toNat + (t (13 + k)).toNat)) ≤ 1000000 := by
      unfold mnI
      split <;> omega
    rw [swT_s]
    exact hB_u (hB_u ih m) m
theorem hB_f {c : Nat} (hc : c < 6) {g : Nat → Int} (h : hB g) : ∀ k, k ≤ 36 → hB (sfT c g k)
  | 0, _ => h
  | k + 1, hk => by
    have ih := hB_f hc h k (by omega)
    have b1 := ih (6 * (k / 6) + c) (by omega)
    have b2 := ih (6 * c + k % 6) (by omega)
    have b3 := ih k (by omega)
    rw [sfT_s]
    refine hB_u ih ?_
    unfold mnI
    split <;> omega
theorem hB_c {g : Nat → Int} (h : hB g) : ∀ c, c ≤ 6 → hB (scF g c)
  | 0, _ => h
  | c + 1, hc => by
    rw [scF_s]
    exact hB_f (by omega) (hB_c h c (by omega)) 36 (by omega)
theorem hB_sg {t g : Nat → Int} (hb : bT t) : hB (sgT t g) := hB_c (hB_w (hB_0 g) hb _ (by have := hb.2.2.1; omega)) 6 (by omega)
theorem r_laySignals {d : Nat} {E : Nat → Nat → Int} (hb : bT (E 383)) : am_sem (d + 1) 192 [.ref 378] am_S0 (dI E) = some (none, am_S0, dI (setR E 394 (sgT (E 383) (E 394)))) := by
  refine mX10_laySignals rfl rfl ?_
  have a1 := hb.2.2.1
  obtain ⟨K, hK⟩ := Int.eq_ofNat_of_zero_le a1.1
  simp (disch := first | omega | simp only [am_ci, am_cr, am_ca]) only [eX10_laySignals_0, eX10_laySignals_1, am_bi, Int.reduceEq, Int.reduceLT, Int.reduceLE, Int.reduceToNat, ite_self, Decidable.not_not, not_true_eq_false, not_false_eq_true, ↓reduceIte, am_ci, am_cr, am_ca, am_b0, am_b1, am_ts, am_tn, am_then_some, List.cons_append, List.nil_append, ne_eq, iI_lit, iI_add, iI_sub, iI_mul, iI_neg, iI_lt, iI_le, iI_eq, iI_in, iI_clz, dI_ap, dI_wr, setR_s, wE_R, setR_2, setR_n, setR_o, updI_s, updI_n, updI_2, tl_0, tl_1, tl_2, tl_3, tl_4, tl_5, tl_6, tl_7, tl_8, tl_9, tl_10, tl_11, tl_12, tl_13, tl_14, tl_15, tl_16, tn_3, tn_5, tn_13, tn_21, tn_29, tn_33, tn_37, tn_41, tn_45, tn_49, tn_53, tn_57, tn_61, tn_40, tn_p, tn_0, true_and, and_true, sk_0, sk_1, sk_2, sl_2, sk_3, sl_3, sk_4, sl_4, sk_5, sl_5, sk_6, sl_6, sk_7, sl_7, sk_8, sl_8, sk_9, sl_9, sk_10, sl_10, sk_11, sl_11, sk_12, sl_12, sk_13, sk_14, sl_14, sk_15, sk_40, sk_41, sl_41, sk_330, sl_330, sk_355, sk_356, sl_356, sk_357, sl_357, sk_358, sl_358, sk_359, sl_359, sk_360, sl_360, sk_361, sk_362, sl_362, sk_363, sk_376, sk_377, sl_377, sk_378, sk_379, sl_379, sk_380, sl_380, sk_381, sl_381, sk_382, sl_382, sk_383, sl_383, sk_384, sl_384, sk_385, sl_385, sk_386, sl_386, sk_387, sl_387, sk_388, sl_388, sk_389, sl_389, sk_390, sl_390, sk_391, sl_391, sk_392, sl_392, sk_393, sl_393, sk_394, sl_394, sr_0_0, sr_0_1, sr_0_2, sr_0_3, sr_0_4, sr_0_5, sr_0_6, sr_0_7, sr_0_8, sr_0_9, sr_1_0, sr_1_1, sr_1_2, sr_13_0, sr_15_0, sr_15_2, sr_40_0, sr_355_0, sr_355_1, sr_355_2, sr_355_3, sr_355_4, sr_355_5, sr_361_2, sr_361_5, sr_361_6, sr_363_0, sr_363_1, sr_376_0, sr_376_2, sr_378_0, sr_378_1, sr_378_2, sr_378_4, sr_378_8, sr_378_10, sr_378_11, sr_378_12, sr_378_14, sr_378_20, sr_378_21, sr_378_22, sr_378_23, sr_378_24, sr_378_25, sr_378_26, am_vs]
  have hG := hB_w (hB_0 (E 394)) hb K (by omega)
  generalize hR : sgT (E 383) (E 394) = R
  unfold sgT at hR
  rw [hK, show ((K : Int)).toNat = K from rfl] at hR
  have L3 : ∀ v2 v3 v4, am_ev (am_sem d) 10 cX10_laySignals 150 [.ref 378, .int (iI 0), v2, v3, v4] [] am_S0 (dI (setR E 394 (swT (E 383) (s0T (E 394) 36) K))) (none, am_S0, dI (setR E 394 R)) := by
    generalize swT (E 383) (s0T (E 394) 36) K = G at *
    refine am_loop (P := fun c => ∀ v2 v3 v4, am_ev (am_sem d) 10 cX10_laySignals 150 [.ref 378, .int (iI c), v2, v3, v4] [] am_S0 (dI (setR E 394 (scF G c))) (none, am_S0, dI (setR E 394 R))) (n := 6) ?_ ?_ (k := 0) (by omega)
    · intro c hc ih v2 v3 v4
      have hC := hB_c hG c (by omega)
      rw [scF_s] at ih
      generalize scF G c = F at *
      rw [eX10_laySignals_150]
      simp (disch := first | omega | simp only [am_ci, am_cr, am_ca]) only [eX10_laySignals_151, eX10_laySignals_153, eX10_laySignals_156, eX10_laySignals_157, am_bi, Int.reduceEq, Int.reduceLT, Int.reduceLE, Int.reduceToNat, ite_self, Decidable.not_not, not_true_eq_false, not_false_eq_true, ↓reduceIte, am_ci, am_cr, am_ca, am_b0, am_b1, am_ts, am_tn, am_then_some, List.cons_append, List.nil_append, ne_eq, iI_lit, iI_add, iI_sub, iI_mul, iI_neg, iI_lt, iI_le, iI_eq, iI_in, iI_clz, dI_ap, dI_wr, setR_s, wE_R, setR_2, setR_n, setR_o, updI_s, updI_n, updI_2, tl_0, tl_1, tl_2, tl_3, tl_4, tl_5, tl_6, tl_7, tl_8, tl_9, tl_10, tl_11, tl_12, tl_13, tl_14, tl_15, tl_16, tn_3, tn_5, tn_13, tn_21, tn_29, tn_33, tn_37, tn_41, tn_45, tn_49, tn_53, tn_57, tn_61, tn_40, tn_p, tn_0, true_and, and_true, sk_0, sk_1, sk_2, sl_2, sk_3, sl_3, sk_4, sl_4, sk_5, sl_5, sk_6, sl_6, sk_7, sl_7, sk_8, sl_8, sk_9, sl_9, sk_10, sl_10, sk_11, sl_11, sk_12, sl_12, sk_13, sk_14, sl_14, sk_15, sk_40, sk_41, sl_41, sk_330, sl_330, sk_355, sk_356, sl_356, sk_357, sl_357, sk_358, sl_358, sk_359, sl_359, sk_360, sl_360, sk_361, sk_362, sl_362, sk_363, sk_376, sk_377, sl_377, sk_378, sk_379, sl_379, sk_380, sl_380, sk_381, sl_381, sk_382, sl_382, sk_383, sl_383, sk_384, sl_384, sk_385, sl_385, sk_386, sl_386, sk_387, sl_387, sk_388, sl_388, sk_389, sl_389, sk_390, sl_390, sk_391, sl_391, sk_392, sl_392, sk_393, sl_393, sk_394, sl_394, sr_0_0, sr_0_1, sr_0_2, sr_0_3, sr_0_4, sr_0_5, sr_0_6, sr_0_7, sr_0_8, sr_0_9, sr_1_0, sr_1_1, sr_1_2, sr_13_0, sr_15_0, sr_15_2, sr_40_0, sr_355_0, sr_355_1, sr_355_2, sr_355_3, sr_355_4, sr_355_5, sr_361_2, sr_361_5, sr_361_6, sr_363_0, sr_363_1, sr_376_0, sr_376_2, sr_378_0, sr_378_1, sr_378_2, sr_378_4, sr_378_8, sr_378_10, sr_378_11, sr_378_12, sr_378_14, sr_378_20, sr_378_21, sr_378_22, sr_378_23, sr_378_24, sr_378_25, sr_378_26, am_vs]
      rw [if_neg (by omega)]
      refine am_loop (P := fun k => ∀ v3 v4, am_ev (am_sem d) 10 cX10_laySignals 158 [.ref 378, .int (iI c), .int (iI k), v3, v4] [] am_S0 (dI (setR E 394 (sfT c F k))) (none, am_S0, dI (setR E 394 R))) (n := 36) ?_ ?_ (k := 0) (by omega) v3 v4
      · intro k hk ih2 v3 v4
        have hF := hB_f hc hC k (by omega)
        have b1 := hF (6 * (k / 6) + c) (by omega)
        have b2 := hF (6 * c + k % 6) (by omega)
        have b3 := hF k (by omega)
        have t1 : (6 * ((k : Int) / 6) + (c : Int)).toNat = 6 * (k / 6) + c := by omega
        have t2 : (6 * (c : Int) + ((k : Int) - (k : Int) / 6 * 6)).toNat = 6 * c + k % 6 := by omega
        rw [sfT_s] at ih2
        unfold mnI at ih2
        rw [eX10_laySignals_158]
        simp (disch := first | omega | simp only [am_ci, am_cr, am_ca]) only [eX10_laySignals_159, eX10_laySignals_161, eX10_laySignals_164, eX10_laySignals_165, eX10_laySignals_168, eX10_laySignals_170, eX10_laySignals_171, eX10_laySignals_173, eX10_laySignals_174, eX10_laySignals_175, eX10_laySignals_176, eX10_laySignals_177, eX10_laySignals_178, eX10_laySignals_179, eX10_laySignals_182, eX10_laySignals_184, eX10_laySignals_185, eX10_laySignals_186, eX10_laySignals_187, eX10_laySignals_189, eX10_laySignals_190, eX10_laySignals_191, eX10_laySignals_192, eX10_laySignals_193, eX10_laySignals_194, eX10_laySignals_195, eX10_laySignals_198, eX10_laySignals_199, eX10_laySignals_200, eX10_laySignals_201, eX10_laySignals_204, eX10_laySignals_205, eX10_laySignals_206, eX10_laySignals_209, eX10_laySignals_210, eX10_laySignals_213, eX10_laySignals_214, eX10_laySignals_217, eX10_laySignals_218, eX10_laySignals_219, eX10_laySignals_220, eX10_laySignals_223, am_bi, Int.reduceEq, Int.reduceLT, Int.reduceLE, Int.reduceToNat, ite_self, Decidable.not_not, not_true_eq_false, not_false_eq_true, ↓reduceIte, am_ci, am_cr, am_ca, am_b0, am_b1, am_ts, am_tn, am_then_some, List.cons_append, List.nil_append, ne_eq, iI_lit, iI_add, iI_sub, iI_mul, iI_neg, iI_lt, iI_le, iI_eq, iI_in, iI_clz, dI_ap, dI_wr, setR_s, wE_R, setR_2, setR_n, setR_o, updI_s, updI_n, updI_2, tl_0, tl_1, tl_2, tl_3, tl_4, tl_5, tl_6, tl_7, tl_8, tl_9, tl_10, tl_11, tl_12, tl_13, tl_14, tl_15, tl_16, tn_3, tn_5, tn_13, tn_21, tn_29, tn_33, tn_37, tn_41, tn_45, tn_49, tn_53, tn_57, tn_61, tn_40, tn_p, tn_0, true_and, and_true, sk_0, sk_1, sk_2, sl_2, sk_3, sl_3, sk_4, sl_4, sk_5, sl_5, sk_6, sl_6, sk_7, sl_7, sk_8, sl_8, sk_9, sl_9, sk_10, sl_10, sk_11, sl_11, sk_12, sl_12, sk_13, sk_14, sl_14, sk_15, sk_40, sk_41, sl_41, sk_330, sl_330, sk_355, sk_356, sl_356, sk_357, sl_357, sk_358, sl_358, sk_359, sl_359, sk_360, sl_360, sk_361, sk_362, sl_362, sk_363, sk_376, sk_377, sl_377, sk_378, sk_379, sl_379, sk_380, sl_380, sk_381, sl_381, sk_382, sl_382, sk_383, sl_383, sk_384, sl_384, sk_385, sl_385, sk_386, sl_386, sk_387, sl_387, sk_388, sl_388, sk_389, sl_389, sk_390, sl_390, sk_391, sl_391, sk_392, sl_392, sk_393, sl_393, sk_394, sl_394, sr_0_0, sr_0_1, sr_0_2, sr_0_3, sr_0_4, sr_0_5, sr_0_6, sr_0_7, sr_0_8, sr_0_9, sr_1_0, sr_1_1, sr_1_2, sr_13_0, sr_15_0, sr_15_2, sr_40_0, sr_355_0, sr_355_1, sr_355_2, sr_355_3, sr_355_4, sr_355_5, sr_361_2, sr_361_5, sr_361_6, sr_363_0, sr_363_1, sr_376_0, sr_376_2, sr_378_0, sr_378_1, sr_378_2, sr_378_4, sr_378_8, sr_378_10, sr_378_11, sr_378_12, sr_378_14, sr_378_20, sr_378_21, sr_378_22, sr_378_23, sr_378_24, sr_378_25, sr_378_26, am_vs, iI_dv, t1, t2]
        rw [if_neg (by omega)]
        by_cases h : sfT c F k (6 * (k / 6) + c) + sfT c F k (6 * c + k % 6) < sfT c F k k
        · rw [if_pos h] at ih2
          repeat (first | rw [if_pos (by omega)] | rw [if_neg (by omega)])
          first | exact ih2 _ _ | exact ⟨by omega, ih2 _ _⟩ | exact ⟨by omega, by omega, ih2 _ _⟩
        · rw [if_neg h] at ih2
          repeat (first | rw [if_pos (by omega)] | rw [if_neg (by omega)])
          first | exact ih2 _ _ | exact ⟨by omega, ih2 _ _⟩ | exact ⟨by omega, by omega, ih2 _ _⟩
      · intro v3 v4
        rw [eX10_laySignals_158]
        simp (disch := first | omega | simp only [am_ci, am_cr, am_ca]) only [eX10_laySignals_159, eX10_laySignals_161, eX10_laySignals_164, eX10_laySignals_165, eX10_laySignals_168, eX10_laySignals_170, eX10_laySignals_171, eX10_laySignals_173, eX10_laySignals_174, eX10_laySignals_175, eX10_laySignals_176, eX10_laySignals_177, eX10_laySignals_178, eX10_laySignals_179, eX10_laySignals_182, eX10_laySignals_184, eX10_laySignals_185, eX10_laySignals_186, eX10_laySignals_187, eX10_laySignals_189, eX10_laySignals_190, eX10_laySignals_191, eX10_laySignals_192, eX10_laySignals_193, eX10_laySignals_194, eX10_laySignals_195, eX10_laySignals_198, eX10_laySignals_199, eX10_laySignals_200, eX10_laySignals_201, eX10_laySignals_204, eX10_laySignals_205, eX10_laySignals_206, eX10_laySignals_209, eX10_laySignals_210, eX10_laySignals_213, eX10_laySignals_214, eX10_laySignals_217, eX10_laySignals_218, eX10_laySignals_219, eX10_laySignals_220, eX10_laySignals_223, eX10_laySignals_226, eX10_laySignals_229, am_bi, Int.reduceEq, Int.reduceLT, Int.reduceLE, Int.reduceToNat, ite_self, Decidable.not_not, not_true_eq_false, not_false_eq_true, ↓reduceIte, am_ci, am_cr, am_ca, am_b0, am_b1, am_ts, am_tn, am_then_some, List.cons_append, List.nil_append, ne_eq, iI_lit, iI_add, iI_sub, iI_mul, iI_neg, iI_lt, iI_le, iI_eq, iI_in, iI_clz, dI_ap, dI_wr, setR_s, wE_R, setR_2, setR_n, setR_o, updI_s, updI_n, updI_2, tl_0, tl_1, tl_2, tl_3, tl_4, tl_5, tl_6, tl_7, tl_8, tl_9, tl_10, tl_11, tl_12, tl_13, tl_14, tl_15, tl_16, tn_3, tn_5, tn_13, tn_21, tn_29, tn_33, tn_37, tn_41, tn_45, tn_49, tn_53, tn_57, tn_61, tn_40, tn_p, tn_0, true_and, and_true, sk_0, sk_1, sk_2, sl_2, sk_3, sl_3, sk_4, sl_4, sk_5, sl_5, sk_6, sl_6, sk_7, sl_7, sk_8, sl_8, sk_9, sl_9, sk_10, sl_10, sk_11, sl_11, sk_12, sl_12, sk_13, sk_14, sl_14, sk_15, sk_40, sk_41, sl_41, sk_330, sl_330, sk_355, sk_356, sl_356, sk_357, sl_357, sk_358, sl_358, sk_359, sl_359, sk_360, sl_360, sk_361, sk_362, sl_362, sk_363, sk_376, sk_377, sl_377, sk_378, sk_379, sl_379, sk_380, sl_380, sk_381, sl_381, sk_382, sl_382, sk_383, sl_383, sk_384, sl_384, sk_385, sl_385, sk_386, sl_386, sk_387, sl_387, sk_388, sl_388, sk_389, sl_389, sk_390, sl_390, sk_391, sl_391, sk_392, sl_392, sk_393, sl_393, sk_394, sl_394, sr_0_0, sr_0_1, sr_0_2, sr_0_3, sr_0_4, sr_0_5, sr_0_6, sr_0_7, sr_0_8, sr_0_9, sr_1_0, sr_1_1, sr_1_2, sr_13_0, sr_15_0, sr_15_2, sr_40_0, sr_355_0, sr_355_1, sr_355_2, sr_355_3, sr_355_4, sr_355_5, sr_361_2, sr_361_5, sr_361_6, sr_363_0, sr_363_1, sr_376_0, sr_376_2, sr_378_0, sr_378_1, sr_378_2, sr_378_4, sr_378_8, sr_378_10, sr_378_11, sr_378_12, sr_378_14, sr_378_20, sr_378_21, sr_378_22, sr_378_23, sr_378_24, sr_378_25, sr_378_26, am_vs]
        rw [if_pos (by omega)]
        exact ih _ _ _
    · intro v2 v3 v4
      rw [hR, eX10_laySignals_150]
      simp (disch := first | omega | simp only [am_ci, am_cr, am_ca]) only [eX10_laySignals_151, eX10_laySignals_153, eX10_laySignals_156, eX10_laySignals_157, eX10_laySignals_159, eX10_laySignals_161, eX10_laySignals_164, eX10_laySignals_165, eX10_laySignals_168, eX10_laySignals_170, eX10_laySignals_171, eX10_laySignals_173, eX10_laySignals_174, eX10_laySignals_175, eX10_laySignals_176, eX10_laySignals_177, eX10_laySignals_178, eX10_laySignals_179, eX10_laySignals_182, eX10_laySignals_184, eX10_laySignals_185, eX10_laySignals_186, eX10_laySignals_187, eX10_laySignals_189, eX10_laySignals_190, eX10_laySignals_191, eX10_laySignals_192, eX10_laySignals_193, eX10_laySignals_194, eX10_laySignals_195, eX10_laySignals_198, eX10_laySignals_199, eX10_laySignals_200, eX10_laySignals_201, eX10_laySignals_204, eX10_laySignals_205, eX10_laySignals_206, eX10_laySignals_209, eX10_laySignals_210, eX10_laySignals_213, eX10_laySignals_214, eX10_laySignals_217, eX10_laySignals_218, eX10_laySignals_219, eX10_laySignals_220, eX10_laySignals_223, eX10_laySignals_226, eX10_laySignals_229, eX10_laySignals_232, am_bi, Int.reduceEq, Int.reduceLT, Int.reduceLE, Int.reduceToNat, ite_self, Decidable.not_not, not_true_eq_false, not_false_eq_true, ↓reduceIte, am_ci, am_cr, am_ca, am_b0, am_b1, am_ts, am_tn, am_then_some, List.cons_append, List.nil_append, ne_eq, iI_lit, iI_add, iI_sub, iI_mul, iI_neg, iI_lt, iI_le, iI_eq, iI_in, iI_clz, dI_ap, dI_wr, setR_s, wE_R, setR_2, setR_n, setR_o, updI_s, updI_n, updI_2, tl_0, tl_1, tl_2, tl_3, tl_4, tl_5, tl_6, tl_7, tl_8, tl_9, tl_10, tl_11, tl_12, tl_13, tl_14, tl_15, tl_16, tn_3, tn_5, tn_13, tn_21, tn_29, tn_33, tn_37, tn_41, tn_45, tn_49, tn_53, tn_57, tn_61, tn_40, tn_p, tn_0, true_and, and_true, sk_0, sk_1, sk_2, sl_2, sk_3, sl_3, sk_4, sl_4, sk_5, sl_5, sk_6, sl_6, sk_7, sl_7, sk_8, sl_8, sk_9, sl_9, sk_10, sl_10, sk_11, sl_11, sk_12, sl_12, sk_13, sk_14, sl_14, sk_15, sk_40, sk_41, sl_41, sk_330, sl_330, sk_355, sk_356, sl_356, sk_357, sl_357, sk_358, sl_358, sk_359, sl_359, sk_360, sl_360, sk_361, sk_362, sl_362, sk_363, sk_376, sk_377, sl_377, sk_378, sk_379, sl_379, sk_380, sl_380, sk_381, sl_381, sk_382, sl_382, sk_383, sl_383, sk_384, sl_384, sk_385, sl_385, sk_386, sl_386, sk_387, sl_387, sk_388, sl_388, sk_389, sl_389, sk_390, sl_390, sk_391, sl_391, sk_392, sl_392, sk_393, sl_393, sk_394, sl_394, sr_0_0, sr_0_1, sr_0_2, sr_0_3, sr_0_4, sr_0_5, sr_0_6, sr_0_7, sr_0_8, sr_0_9, sr_1_0, sr_1_1, sr_1_2, sr_13_0, sr_15_0, sr_15_2, sr_40_0, sr_355_0, sr_355_1, sr_355_2, sr_355_3, sr_355_4, sr_355_5, sr_361_2, sr_361_5, sr_361_6, sr_363_0, sr_363_1, sr_376_0, sr_376_2, sr_378_0, sr_378_1, sr_378_2, sr_378_4, sr_378_8, sr_378_10, sr_378_11, sr_378_12, sr_378_14, sr_378_20, sr_378_21, sr_378_22, sr_378_23, sr_378_24, sr_378_25, sr_378_26, am_vs]
      all_goals ((repeat' split) <;> first | rfl | trivial | (exfalso; omega))
  have L2 : ∀ v2 v3 v4, am_ev (am_sem d) 10 cX10_laySignals 35 [.ref 378, .int (iI 0), v2, v3, v4] [] am_S0 (dI (setR E 394 (s0T (E 394) 36))) (none, am_S0, dI (setR E 394 R)) := by
    refine am_loop (P := fun k => ∀ v2 v3 v4, am_ev (am_sem d) 10 cX10_laySignals 35 [.ref 378, .int (iI k), v2, v3, v4] [] am_S0 (dI (setR E 394 (swT (E 383) (s0T (E 394) 36) k))) (none, am_S0, dI (setR E 394 R))) (n := K) ?_ ?_ (k := 0) (by omega)
    · intro k hk ih v2 v3 v4
      have hW := hB_w (hB_0 (E 394)) hb k (by omega)
      obtain ⟨w5, w13, w21⟩ := hb.2.2.2.2.2.2.1 k (by omega)
      obtain ⟨a, ha⟩ := Int.eq_ofNat_of_zero_le w5.1
      obtain ⟨b, hb2⟩ := Int.eq_ofNat_of_zero_le w13.1
      rw [swT_s, ha, hb2, show ((a : Int)).toNat = a from rfl, show ((b : Int)).toNat = b from rfl] at ih
      generalize swT (E 383) (s0T (E 394) 36) k = G at *
      have b1 := hW (6 * a + b) (by omega)
      have t1 : (6 * (a : Int) + (b : Int)).toNat = 6 * a + b := by omega
      have t2 : (6 * (b : Int) + (a : Int)).toNat = 6 * b + a := by omega
      unfold mnI at ih
      rw [eX10_laySignals_35]
      simp (disch := first | omega | simp only [am_ci, am_cr, am_ca]) only [eX10_laySignals_36, eX10_laySignals_37, eX10_laySignals_40, eX10_laySignals_41, eX10_laySignals_42, eX10_laySignals_45, eX10_laySignals_46, eX10_laySignals_49, eX10_laySignals_50, eX10_laySignals_51, eX10_laySignals_52, eX10_laySignals_53, eX10_laySignals_54, eX10_laySignals_55, eX10_laySignals_58, eX10_laySignals_60, eX10_laySignals_61, eX10_laySignals_62, eX10_laySignals_63, eX10_laySignals_64, eX10_laySignals_65, eX10_laySignals_66, eX10_laySignals_69, eX10_laySignals_71, eX10_laySignals_72, eX10_laySignals_73, eX10_laySignals_74, eX10_laySignals_75, eX10_laySignals_76, eX10_laySignals_79, eX10_laySignals_81, eX10_laySignals_82, eX10_laySignals_83, eX10_laySignals_84, eX10_laySignals_85, eX10_laySignals_86, eX10_laySignals_89, eX10_laySignals_90, eX10_laySignals_91, eX10_laySignals_94, eX10_laySignals_96, eX10_laySignals_97, eX10_laySignals_98, eX10_laySignals_99, eX10_laySignals_100, eX10_laySignals_103, eX10_laySignals_104, eX10_laySignals_107, eX10_laySignals_109, eX10_laySignals_110, eX10_laySignals_111, eX10_laySignals_112, eX10_laySignals_113, eX10_laySignals_114, eX10_laySignals_116, eX10_laySignals_117, eX10_laySignals_120, eX10_laySignals_122, eX10_laySignals_123, eX10_laySignals_124, eX10_laySignals_125, eX10_laySignals_126, eX10_laySignals_128, eX10_laySignals_129, eX10_laySignals_130, eX10_laySignals_133, eX10_laySignals_135, eX10_laySignals_136, eX10_laySignals_137, eX10_laySignals_138, eX10_laySignals_139, eX10_laySignals_141, eX10_laySignals_142, eX10_laySignals_145, am_bi, Int.reduceEq, Int.reduceLT, Int.reduceLE, Int.reduceToNat, ite_self, Decidable.not_not, not_true_eq_false, not_false_eq_true, ↓reduceIte, am_ci, am_cr, am_ca, am_b0, am_b1, am_ts, am_tn, am_then_some, List.cons_append, List.nil_append, ne_eq, iI_lit, iI_add, iI_sub, iI_mul, iI_neg, iI_lt, iI_le, iI_eq, iI_in, iI_clz, dI_ap, dI_wr, setR_s, wE_R, setR_2, setR_n, setR_o, updI_s, updI_n, updI_2, tl_0, tl_1, tl_2, tl_3, tl_4, tl_5, tl_6, tl_7, tl_8, tl_9, tl_10, tl_11, tl_12, tl_13, tl_14, tl_15, tl_16, tn_3, tn_5, tn_13, tn_21, tn_29, tn_33, tn_37, tn_41, tn_45, tn_49, tn_53, tn_57, tn_61, tn_40, tn_p, tn_0, true_and, and_true, sk_0, sk_1, sk_2, sl_2, sk_3, sl_3, sk_4, sl_4, sk_5, sl_5, sk_6, sl_6, sk_7, sl_7, sk_8, sl_8, sk_9, sl_9, sk_10, sl_10, sk_11, sl_11, sk_12, sl_12, sk_13, sk_14, sl_14, sk_15, sk_40, sk_41, sl_41, sk_330, sl_330, sk_355, sk_356, sl_356, sk_357, sl_357, sk_358, sl_358, sk_359, sl_359, sk_360, sl_360, sk_361, sk_362, sl_362, sk_363, sk_376, sk_377, sl_377, sk_378, sk_379, sl_379, sk_380, sl_380, sk_381, sl_381, sk_382, sl_382, sk_383, sl_383, sk_384, sl_384, sk_385, sl_385, sk_386, sl_386, sk_387, sl_387, sk_388, sl_388, sk_389, sl_389, sk_390, sl_390, sk_391, sl_391, sk_392, sl_392, sk_393, sl_393, sk_394, sl_394, sr_0_0, sr_0_1, sr_0_2, sr_0_3, sr_0_4, sr_0_5, sr_0_6, sr_0_7, sr_0_8, sr_0_9, sr_1_0, sr_1_1, sr_1_2, sr_13_0, sr_15_0, sr_15_2, sr_40_0, sr_355_0, sr_355_1, sr_355_2, sr_355_3, sr_355_4, sr_355_5, sr_361_2, sr_361_5, sr_361_6, sr_363_0, sr_363_1, sr_376_0, sr_376_2, sr_378_0, sr_378_1, sr_378_2, sr_378_4, sr_378_8, sr_378_10, sr_378_11, sr_378_12, sr_378_14, sr_378_20, sr_378_21, sr_378_22, sr_378_23, sr_378_24, sr_378_25, sr_378_26, am_vs, hK, ha, hb2, t1, t2]
      rw [if_neg (by omega)]
      by_cases h : 3 * E 383 (21 + k) < G (6 * a + b)
      · rw [if_pos h] at ih
        repeat (first | rw [if_pos (by omega)] | rw [if_neg (by omega)])
        exact ih _ _ _
      · rw [if_neg h] at ih
        repeat (first | rw [if_pos (by omega)] | rw [if_neg (by omega)])
        exact ih _ _ _
    · intro v2 v3 v4
      rw [eX10_laySignals_35]
      simp (disch := first | omega | simp only [am_ci, am_cr, am_ca]) only [eX10_laySignals_36, eX10_laySignals_37, eX10_laySignals_40, eX10_laySignals_41, eX10_laySignals_42, eX10_laySignals_45, eX10_laySignals_46, eX10_laySignals_49, eX10_laySignals_50, eX10_laySignals_51, eX10_laySignals_52, eX10_laySignals_53, eX10_laySignals_54, eX10_laySignals_55, eX10_laySignals_58, eX10_laySignals_60, eX10_laySignals_61, eX10_laySignals_62, eX10_laySignals_63, eX10_laySignals_64, eX10_laySignals_65, eX10_laySignals_66, eX10_laySignals_69, eX10_laySignals_71, eX10_laySignals_72, eX10_laySignals_73, eX10_laySignals_74, eX10_laySignals_75, eX10_laySignals_76, eX10_laySignals_79, eX10_laySignals_81, eX10_laySignals_82, eX10_laySignals_83, eX10_laySignals_84, eX10_laySignals_85, eX10_laySignals_86, eX10_laySignals_89, eX10_laySignals_90, eX10_laySignals_91, eX10_laySignals_94, eX10_laySignals_96, eX10_laySignals_97, eX10_laySignals_98, eX10_laySignals_99, eX10_laySignals_100, eX10_laySignals_103, eX10_laySignals_104, eX10_laySignals_107, eX10_laySignals_109, eX10_laySignals_110, eX10_laySignals_111, eX10_laySignals_112, eX10_laySignals_113, eX10_laySignals_114, eX10_laySignals_116, eX10_laySignals_117, eX10_laySignals_120, eX10_laySignals_122, eX10_laySignals_123, eX10_laySignals_124, eX10_laySignals_125, eX10_laySignals_126, eX10_laySignals_128, eX10_laySignals_129, eX10_laySignals_130, eX10_laySignals_133, eX10_laySignals_135, eX10_laySignals_136, eX10_laySignals_137, eX10_laySignals_138, eX10_laySignals_139, eX10_laySignals_141, eX10_laySignals_142, eX10_laySignals_145, eX10_laySignals_148, eX10_laySignals_149, am_bi, Int.reduceEq, Int.reduceLT, Int.reduceLE, Int.reduceToNat, ite_self, Decidable.not_not, not_true_eq_false, not_false_eq_true, ↓reduceIte, am_ci, am_cr, am_ca, am_b0, am_b1, am_ts, am_tn, am_then_some, List.cons_append, List.nil_append, ne_eq, iI_lit, iI_add, iI_sub, iI_mul, iI_neg, iI_lt, iI_le, iI_eq, iI_in, iI_clz, dI_ap, dI_wr, setR_s, wE_R, setR_2, setR_n, setR_o, updI_s, updI_n, updI_2, tl_0, tl_1, tl_2, tl_3, tl_4, tl_5, tl_6, tl_7, tl_8, tl_9, tl_10, tl_11, tl_12, tl_13, tl_14, tl_15, tl_16, tn_3, tn_5, tn_13, tn_21, tn_29, tn_33, tn_37, tn_41, tn_45, tn_49, tn_53, tn_57, tn_61, tn_40, tn_p, tn_0, true_and, and_true, sk_0, sk_1, sk_2, sl_2, sk_3, sl_3, sk_4, sl_4, sk_5, sl_5, sk_6, sl_6, sk_7, sl_7, sk_8, sl_8, sk_9, sl_9, sk_10, sl_10, sk_11, sl_11, sk_12, sl_12, sk_13, sk_14, sl_14, sk_15, sk_40, sk_41, sl_41, sk_330, sl_330, sk_355, sk_356, sl_356, sk_357, sl_357, sk_358, sl_358, sk_359, sl_359, sk_360, sl_360, sk_361, sk_362, sl_362, sk_363, sk_376, sk_377, sl_377, sk_378, sk_379, sl_379, sk_380, sl_380, sk_381, sl_381, sk_382, sl_382, sk_383, sl_383, sk_384, sl_384, sk_385, sl_385, sk_386, sl_386, sk_387, sl_387, sk_388, sl_388, sk_389, sl_389, sk_390, sl_390, sk_391, sl_391, sk_392, sl_392, sk_393, sl_393, sk_394, sl_394, sr_0_0, sr_0_1, sr_0_2, sr_0_3, sr_0_4, sr_0_5, sr_0_6, sr_0_7, sr_0_8, sr_0_9, sr_1_0, sr_1_1, sr_1_2, sr_13_0, sr_15_0, sr_15_2, sr_40_0, sr_355_0, sr_355_1, sr_355_2, sr_355_3, sr_355_4, sr_355_5, sr_361_2, sr_361_5, sr_361_6, sr_363_0, sr_363_1, sr_376_0, sr_376_2, sr_378_0, sr_378_1, sr_378_2, sr_378_4, sr_378_8, sr_378_10, sr_378_11, sr_378_12, sr_378_14, sr_378_20, sr_378_21, sr_378_22, sr_378_23, sr_378_24, sr_378_25, sr_378_26, am_vs, hK]
      rw [if_pos (by omega)]
      exact L3 _ _ _
  have h0 := am_loop (P := fun k => ∀ v2 v3 v4, am_ev (am_sem d) 10 cX10_laySignals 2 [.ref 378, .int (iI k), v2, v3, v4] [] am_S0 (dI (setR E 394 (s0T (E 394) k))) (none, am_S0, dI (setR E 394 R))) (n := 36) ?_ ?_ (k := 0) (by omega)
  · have e : s0T (E 394) 0 = E 394 := by funext x; unfold s0T; rw [if_neg (by omega)]
    rw [e, setR_e] at h0
    exact h0 _ _ _
  · intro k hk ih v2 v3 v4
    rw [← s0T_s] at ih
    rw [eX10_laySignals_2]
    simp (disch := first | omega | simp only [am_ci, am_cr, am_ca]) only [eX10_laySignals_3, eX10_laySignals_5, eX10_laySignals_8, eX10_laySignals_9, eX10_laySignals_12, eX10_laySignals_13, eX10_laySignals_14, eX10_laySignals_16, eX10_laySignals_17, eX10_laySignals_20, eX10_laySignals_21, eX10_laySignals_24, eX10_laySignals_26, eX10_laySignals_27, eX10_laySignals_30, am_bi, Int.reduceEq, Int.reduceLT, Int.reduceLE, Int.reduceToNat, ite_self, Decidable.not_not, not_true_eq_false, not_false_eq_true, ↓reduceIte, am_ci, am_cr, am_ca, am_b0, am_b1, am_ts, am_tn, am_then_some, List.cons_append, List.nil_append, ne_eq, iI_lit, iI_add, iI_sub, iI_mul, iI_neg, iI_lt, iI_le, iI_eq, iI_in, iI_clz, dI_ap, dI_wr, setR_s, wE_R, setR_2, setR_n, setR_o, updI_s, updI_n, updI_2, tl_0, tl_1, tl_2, tl_3, tl_4, tl_5, tl_6, tl_7, tl_8, tl_9, tl_10, tl_11, tl_12, tl_13, tl_14, tl_15, tl_16, tn_3, tn_5, tn_13, tn_21, tn_29, tn_33, tn_37, tn_41, tn_45, tn_49, tn_53, tn_57, tn_61, tn_40, tn_p, tn_0, true_and, and_true, sk_0, sk_1, sk_2, sl_2, sk_3, sl_3, sk_4, sl_4, sk_5, sl_5, sk_6, sl_6, sk_7, sl_7, sk_8, sl_8, sk_9, sl_9, sk_10, sl_10, sk_11, sl_11, sk_12, sl_12, sk_13, sk_14, sl_14, sk_15, sk_40, sk_41, sl_41, sk_330, sl_330, sk_355, sk_356, sl_356, sk_357, sl_357, sk_358, sl_358, sk_359, sl_359, sk_360, sl_360, sk_361, sk_362, sl_362, sk_363, sk_376, sk_377, sl_377, sk_378, sk_379, sl_379, sk_380, sl_380, sk_381, sl_381, sk_382, sl_382, sk_383, sl_383, sk_384, sl_384, sk_385, sl_385, sk_386, sl_386, sk_387, sl_387, sk_388, sl_388, sk_389, sl_389, sk_390, sl_390, sk_391, sl_391, sk_392, sl_392, sk_393, sl_393, sk_394, sl_394, sr_0_0, sr_0_1, sr_0_2, sr_0_3, sr_0_4, sr_0_5, sr_0_6, sr_0_7, sr_0_8, sr_0_9, sr_1_0, sr_1_1, sr_1_2, sr_13_0, sr_15_0, sr_15_2, sr_40_0, sr_355_0, sr_355_1, sr_355_2, sr_355_3, sr_355_4, sr_355_5, sr_361_2, sr_361_5, sr_361_6, sr_363_0, sr_363_1, sr_376_0, sr_376_2, sr_378_0, sr_378_1, sr_378_2, sr_378_4, sr_378_8, sr_378_10, sr_378_11, sr_378_12, sr_378_14, sr_378_20, sr_378_21, sr_378_22, sr_378_23, sr_378_24, sr_378_25, sr_378_26, am_vs, iI_dv]
    rw [if_neg (by omega)]
    by_cases h : k % 7 = 0
    · rw [if_pos h] at ih
      repeat (first | rw [if_pos (by omega)] | rw [if_neg (by omega)])
      first | exact ih _ _ _ | exact ⟨by omega, ih _ _ _⟩
    · rw [if_neg h] at ih
      repeat (first | rw [if_pos (by omega)] | rw [if_neg (by omega)])
      first | exact ih _ _ _ | exact ⟨by omega, ih _ _ _⟩
  · intro v2 v3 v4
    rw [eX10_laySignals_2]
    simp (disch := first | omega | simp only [am_ci, am_cr, am_ca]) only [eX10_laySignals_3, eX10_laySignals_5, eX10_laySignals_8, eX10_laySignals_9, eX10_laySignals_12, eX10_laySignals_13, eX10_laySignals_14, eX10_laySignals_16, eX10_laySignals_17, eX10_laySignals_20, eX10_laySignals_21, eX10_laySignals_24, eX10_laySignals_26, eX10_laySignals_27, eX10_laySignals_30, eX10_laySignals_33, eX10_laySignals_34, am_bi, Int.reduceEq, Int.reduceLT, Int.reduceLE, Int.reduceToNat, ite_self, Decidable.not_not, not_true_eq_false, not_false_eq_true, ↓reduceIte, am_ci, am_cr, am_ca, am_b0, am_b1, am_ts, am_tn, am_then_some, List.cons_append, List.nil_append, ne_eq, iI_lit, iI_add, iI_sub, iI_mul, iI_neg, iI_lt, iI_le, iI_eq, iI_in, iI_clz, dI_ap, dI_wr, setR_s, wE_R, setR_2, setR_n, setR_o, updI_s, updI_n, updI_2, tl_0, tl_1, tl_2, tl_3, tl_4, tl_5, tl_6, tl_7, tl_8, tl_9, tl_10, tl_11, tl_12, tl_13, tl_14, tl_15, tl_16, tn_3, tn_5, tn_13, tn_21, tn_29, tn_33, tn_37, tn_41, tn_45, tn_49, tn_53, tn_57, tn_61, tn_40, tn_p, tn_0, true_and, and_true, sk_0, sk_1, sk_2, sl_2, sk_3, sl_3, sk_4, sl_4, sk_5, sl_5, sk_6, sl_6, sk_7, sl_7, sk_8, sl_8, sk_9, sl_9, sk_10, sl_10, sk_11, sl_11, sk_12, sl_12, sk_13, sk_14, sl_14, sk_15, sk_40, sk_41, sl_41, sk_330, sl_330, sk_355, sk_356, sl_356, sk_357, sl_357, sk_358, sl_358, sk_359, sl_359, sk_360, sl_360, sk_361, sk_362, sl_362, sk_363, sk_376, sk_377, sl_377, sk_378, sk_379, sl_379, sk_380, sl_380, sk_381, sl_381, sk_382, sl_382, sk_383, sl_383, sk_384, sl_384, sk_385, sl_385, sk_386, sl_386, sk_387, sl_387, sk_388, sl_388, sk_389, sl_389, sk_390, sl_390, sk_391, sl_391, sk_392, sl_392, sk_393, sl_393, sk_394, sl_394, sr_0_0, sr_0_1, sr_0_2, sr_0_3, sr_0_4, sr_0_5, sr_0_6, sr_0_7, sr_0_8, sr_0_9, sr_1_0, sr_1_1, sr_1_2, sr_13_0, sr_15_0, sr_15_2, sr_40_0, sr_355_0, sr_355_1, sr_355_2, sr_355_3, sr_355_4, sr_355_5, sr_361_2, sr_361_5, sr_361_6, sr_363_0, sr_363_1, sr_376_0, sr_376_2, sr_378_0, sr_378_1, sr_378_2, sr_378_4, sr_378_8, sr_378_10, sr_378_11, sr_378_12, sr_378_14, sr_378_20, sr_378_21, sr_378_22, sr_378_23, sr_378_24, sr_378_25, sr_378_26, am_vs]
    rw [if_pos (by omega)]
    exact L2 _ _ _
