/-! ===== the reference: sure ===== -/
/-- the reference's scratch rows alone have changed -/
def scr (E E' : Nat → Nat → Int) : Prop := (∀ b, (b < 389 ∨ 394 < b) → E' b = E b) ∧ z85 (E' 389)
theorem scr_u {E E' : Nat → Nat → Int} (h : scr E E') {q : Nat} (hq : 389 < q ∧ q ≤ 394) (g : Nat → Int) : scr E (setR E' q g) := by
  refine ⟨fun b hb => ?_, ?_⟩
  · rw [setR_n (by omega)]; exact h.1 b hb
  · rw [setR_n (by omega)]; exact h.2
theorem scr_tr {E : Nat → Nat → Int} {m n : Nat} {till : Int} (hw : wT (E 383)) (ht : E 383 3 ≤ till) (ht2 : till ≤ 150) : scr E (trE E m n till) := by
  refine ⟨fun b hb => trE_o E _ _ _ (by omega) (by omega), ?_⟩
  have wM := muT_w hw m 4 (by omega)
  have e3 : muT (E 383) m 4 3 = E 383 3 := muT_o _ _ _ (by omega)
  obtain ⟨wI, eI⟩ := itT_w wM (till - E 383 3).toNat (by omega)
  unfold trE
  rw [setR_n (by omega), setR_s]
  exact wI.2
def mxI (x y : Int) : Int := if y < x then x else y
/-- from when a port can be sure that the first k have said so -/
def mxQ (w sg : Nat → Int) (p : Nat) : Nat → Int
  | 0 => 0
  | q + 1 => mxI (w q + sg (6 * q + p)) (mxQ w sg p q)
theorem mxQ_s (w sg : Nat → Int) (p q : Nat) : mxQ w sg p (q + 1) = mxI (w q + sg (6 * q + p)) (mxQ w sg p q) := rfl
def csT (w sg g : Nat → Int) (N k : Nat) : Nat → Int := fun p => if p < k then mxQ w sg p N else g p
theorem csT_s (w sg g : Nat → Int) (N k : Nat) : updI (csT w sg g N k) k (mxQ w sg k N) = csT w sg g N (k + 1) := by
  funext x
  unfold updI csT
  by_cases h : x = k
  · subst h; rw [if_pos rfl, if_pos (show x < x + 1 by omega)]
  · rw [if_neg h]
    by_cases h2 : x < k
    · rw [if_pos h2, if_pos (show x < k + 1 by omega)]
    · rw [if_neg h2, if_neg (show ¬ x < k + 1 by omega)]
def toK (f g : Nat → Int) (k : Nat) : Nat → Int := fun p => if p < k then f p else g p
theorem toK_s (f g : Nat → Int) (k : Nat) : updI (toK f g k) k (f k) = toK f g (k + 1) := by
  funext x
  unfold updI toK
  by_cases h : x = k
  · subst h; rw [if_pos rfl, if_pos (show x < x + 1 by omega)]
  · rw [if_neg h]
    by_cases h2 : x < k
    · rw [if_pos h2, if_pos (show x < k + 1 by omega)]
    · rw [if_neg h2, if_neg (show ¬ x < k + 1 by omega)]
theorem toK_0 (f g : Nat → Int) : toK f g 0 = g := by funext x; unfold toK; rw [if_neg (by omega)]
/-- a turn -/
def tuW (sg : Nat → Int) (N : Nat) (w c : Nat → Int) : Nat → (Nat → Int) × (Nat → Int)
  | 0 => (w, c)
  | j + 1 => (toK (csT (tuW sg N w c j).1 sg (tuW sg N w c j).2 N N) (tuW sg N w c j).1 N, csT (tuW sg N w c j).1 sg (tuW sg N w c j).2 N N)
theorem tuW_s (sg : Nat → Int) (N : Nat) (w c : Nat → Int) (j : Nat) : tuW sg N w c (j + 1) = (toK (csT (tuW sg N w c j).1 sg (tuW sg N w c j).2 N N) (tuW sg N w c j).1 N, csT (tuW sg N w c j).1 sg (tuW sg N w c j).2 N N) := rfl
theorem mxQ_b {w sg : Nat → Int} {p N : Nat} {B : Int} (hB0 : 0 ≤ B) (hN : N ≤ 6) (hp : p < 6) (hw : ∀ q, q < N → 0 ≤ w q ∧ w q ≤ B) (hs : hB sg) : ∀ q, q ≤ N → 0 ≤ mxQ w sg p q ∧ mxQ w sg p q ≤ B + 1000000
  | 0, _ => by unfold mxQ; omega
  | q + 1, hq => by
    have ih := mxQ_b hB0 hN hp hw hs q (by omega)
    have h1 := hw q (by omega)
    have h2 := hs (6 * q + p) (by omega)
    rw [mxQ_s]
    unfold mxI
    split <;> omega
theorem tuW_b {sg : Nat → Int} {N : Nat} {w c : Nat → Int} (hN : N ≤ 6) (hw : ∀ q, q < N → 0 ≤ w q ∧ w q ≤ 150) (hs : hB sg) : ∀ j : Nat, ∀ q, q < N → 0 ≤ (tuW sg N w c j).1 q ∧ (tuW sg N w c j).1 q ≤ 150 + 1000000 * (j : Int)
  | 0, q, hq => by have := hw q hq; unfold tuW; simp only; omega
  | j + 1, q, hq => by
    have ih := tuW_b (c := c) hN hw hs j
    rw [tuW_s]
    simp only
    unfold toK csT
    rw [if_pos hq, if_pos hq]
    have := mxQ_b (p := q) (B := 150 + 1000000 * (j : Int)) (by omega) hN (by omega) ih hs N (by omega)
    omega
/-- the latest of the first k -/
def mxL (w : Nat → Int) : Nat → Int
  | 0 => 0
  | p + 1 => mxI (w p) (mxL w p)
theorem mxL_s (w : Nat → Int) (p : Nat) : mxL w (p + 1) = mxI (w p) (mxL w p) := rfl
theorem mxL_b {w : Nat → Int} {N : Nat} (hw : ∀ q, q < N → 0 ≤ w q ∧ w q ≤ 10000000) : ∀ k, k ≤ N → 0 ≤ mxL w k ∧ mxL w k ≤ 10000000
  | 0, _ => by unfold mxL; omega
  | k + 1, hk => by
    have ih := mxL_b hw k (by omega)
    have h1 := hw k (by omega)
    rw [mxL_s]
    unfold mxI
    split <;> omega
/-- what sure answers -/
def suV (w sg : Nat → Int) (N k : Nat) (c : Nat → Int) : Int := if ∀ p, p < N → 0 ≤ w p then (if 999 < mxL (tuW sg N w c k).1 N then -1000000 else mxL (tuW sg N w c k).1 N) else -1000000
theorem r_sure_t {d k N : Nat} {y : Int} {E : Nat → Nat → Int} (hN : N ≤ 6) (hk : k ≤ 3) (hw : ∀ p, p < N → 0 ≤ E 390 p ∧ E 390 p ≤ 150) (hs : hB (E 394)) (v5 v6 v7 : Value) : am_ev (am_sem d) 10 cX10_sure 74 [.ref 378, .int (iI y), .int (iI k), .int (iI N), .int (iI 0), v5, v6, v7] [] am_S0 (dI E) (some (.int (iI (if 999 < mxL (tuW (E 394) N (E 390) (E 391) k).1 N then -1000000 else mxL (tuW (E 394) N (E 390) (E 391) k).1 N))), am_S0, dI (setR (setR E 390 (tuW (E 394) N (E 390) (E 391) k).1) 391 (tuW (E 394) N (E 390) (E 391) k).2)) := by
  generalize hR : (some (Value.int (iI (if 999 < mxL (tuW (E 394) N (E 390) (E 391) k).1 N then -1000000 else mxL (tuW (E 394) N (E 390) (E 391) k).1 N))), am_S0, dI (setR (setR E 390 (tuW (E 394) N (E 390) (E 391) k).1) 391 (tuW (E 394) N (E 390) (E 391) k).2)) = R
  have h0 := am_loop (P := fun j => ∀ v5 v6 v7, am_ev (am_sem d) 10 cX10_sure 74 [.ref 378, .int (iI y), .int (iI k), .int (iI N), .int (iI j), v5, v6, v7] [] am_S0 (dI (setR (setR E 390 (tuW (E 394) N (E 390) (E 391) j).1) 391 (tuW (E 394) N (E 390) (E 391) j).2)) R) (n := k) ?_ ?_ (k := 0) (by omega)
  · have h1 := h0 v5 v6 v7
    simp only [tuW] at h1
    rw [setR_e, setR_e] at h1
    exact h1
  · intro j hj ih v5 v6 v7
    have hb := tuW_b (c := E 391) hN hw hs j
    rw [tuW_s] at ih
    simp only at ih
    generalize (tuW (E 394) N (E 390) (E 391) j).1 = w at *
    generalize (tuW (E 394) N (E 390) (E 391) j).2 = c at *
    have hQ : ∀ p q, p < N → q ≤ N → 0 ≤ mxQ w (E 394) p q ∧ mxQ w (E 394) p q ≤ 150 + 1000000 * (j : Int) + 1000000 := fun p q hp hq => mxQ_b (by omega) hN (by omega) hb hs q hq
    -- the copy back
    have L2 : ∀ v6 v7, am_ev (am_sem d) 10 cX10_sure 175 [.ref 378, .int (iI y), .int (iI k), .int (iI N), .int (iI j), .int (iI 0), v6, v7] [] am_S0 (dI (setR (setR E 390 w) 391 (csT w (E 394) c N N))) R := by
      have h2 := am_loop (P := fun m => ∀ v6 v7, am_ev (am_sem d) 10 cX10_sure 175 [.ref 378, .int (iI y), .int (iI k), .int (iI N), .int (iI j), .int (iI m), v6, v7] [] am_S0 (dI (setR (setR E 390 (toK (csT w (E 394) c N N) w m)) 391 (csT w (E 394) c N N))) R) (n := N) ?_ ?_ (k := 0) (by omega)
      · rw [toK_0] at h2; exact h2
      · intro m hm ih2 v6 v7
        rw [← toK_s] at ih2
        rw [eX10_sure_175]
        simp (disch := first | omega | simp only [am_ci, am_cr, am_ca]) only [eX10_sure_177, eX10_sure_178, eX10_sure_181, eX10_sure_182, eX10_sure_185, eX10_sure_187, eX10_sure_188, eX10_sure_191, eX10_sure_193, eX10_sure_194, eX10_sure_195, eX10_sure_198, am_bi, Int.reduceEq, Int.reduceLT, Int.reduceLE, Int.reduceToNat, ite_self, Decidable.not_not, not_true_eq_false, not_false_eq_true, ↓reduceIte, am_ci, am_cr, am_ca, am_b0, am_b1, am_ts, am_tn, am_then_some, List.cons_append, List.nil_append, ne_eq, iI_lit, iI_add, iI_sub, iI_mul, iI_neg, iI_lt, iI_le, iI_eq, iI_in, iI_clz, dI_ap, dI_wr, setR_s, wE_R, setR_2, setR_n, setR_o, updI_s, updI_n, updI_2, tl_0, tl_1, tl_2, tl_3, tl_4, tl_5, tl_6, tl_7, tl_8, tl_9, tl_10, tl_11, tl_12, tl_13, tl_14, tl_15, tl_16, tn_3, tn_5, tn_13, tn_21, tn_29, tn_33, tn_37, tn_41, tn_45, tn_49, tn_53, tn_57, tn_61, tn_40, tn_p, tn_0, true_and, and_true, sk_0, sk_1, sk_2, sl_2, sk_3, sl_3, sk_4, sl_4, sk_5, sl_5, sk_6, sl_6, sk_7, sl_7, sk_8, sl_8, sk_9, sl_9, sk_10, sl_10, sk_11, sl_11, sk_12, sl_12, sk_13, sk_14, sl_14, sk_15, sk_40, sk_41, sl_41, sk_330, sl_330, sk_355, sk_356, sl_356, sk_357, sl_357, sk_358, sl_358, sk_359, sl_359, sk_360, sl_360, sk_361, sk_362, sl_362, sk_363, sk_376, sk_377, sl_377, sk_378, sk_379, sl_379, sk_380, sl_380, sk_381, sl_381, sk_382, sl_382, sk_383, sl_383, sk_384, sl_384, sk_385, sl_385, sk_386, sl_386, sk_387, sl_387, sk_388, sl_388, sk_389, sl_389, sk_390, sl_390, sk_391, sl_391, sk_392, sl_392, sk_393, sl_393, sk_394, sl_394, sr_0_0, sr_0_1, sr_0_2, sr_0_3, sr_0_4, sr_0_5, sr_0_6, sr_0_7, sr_0_8, sr_0_9, sr_1_0, sr_1_1, sr_1_2, sr_13_0, sr_15_0, sr_15_2, sr_40_0, sr_355_0, sr_355_1, sr_355_2, sr_355_3, sr_355_4, sr_355_5, sr_361_2, sr_361_5, sr_361_6, sr_363_0, sr_363_1, sr_376_0, sr_376_2, sr_378_0, sr_378_1, sr_378_2, sr_378_4, sr_378_8, sr_378_10, sr_378_11, sr_378_12, sr_378_14, sr_378_20, sr_378_21, sr_378_22, sr_378_23, sr_378_24, sr_378_25, sr_378_26, am_vs]
        rw [if_neg (by omega)]
        exact ih2 _ _
      · intro v6 v7
        rw [eX10_sure_175]
        simp (disch := first | omega | simp only [am_ci, am_cr, am_ca]) only [eX10_sure_177, eX10_sure_178, eX10_sure_181, eX10_sure_182, eX10_sure_185, eX10_sure_187, eX10_sure_188, eX10_sure_191, eX10_sure_193, eX10_sure_194, eX10_sure_195, eX10_sure_198, eX10_sure_201, eX10_sure_204, am_bi, Int.reduceEq, Int.reduceLT, Int.reduceLE, Int.reduceToNat, ite_self, Decidable.not_not, not_true_eq_false, not_false_eq_true, ↓reduceIte, am_ci, am_cr, am_ca, am_b0, am_b1, am_ts, am_tn, am_then_some, List.cons_append, List.nil_append, ne_eq, iI_lit, iI_add, iI_sub, iI_mul, iI_neg, iI_lt, iI_le, iI_eq, iI_in, iI_clz, dI_ap, dI_wr, setR_s, wE_R, setR_2, setR_n, setR_o, updI_s, updI_n, updI_2, tl_0, tl_1, tl_2, tl_3, tl_4, tl_5, tl_6, tl_7, tl_8, tl_9, tl_10, tl_11, tl_12, tl_13, tl_14, tl_15, tl_16, tn_3, tn_5, tn_13, tn_21, tn_29, tn_33, tn_37, tn_41, tn_45, tn_49, tn_53, tn_57, tn_61, tn_40, tn_p, tn_0, true_and, and_true, sk_0, sk_1, sk_2, sl_2, sk_3, sl_3, sk_4, sl_4, sk_5, sl_5, sk_6, sl_6, sk_7, sl_7, sk_8, sl_8, sk_9, sl_9, sk_10, sl_10, sk_11, sl_11, sk_12, sl_12, sk_13, sk_14, sl_14, sk_15, sk_40, sk_41, sl_41, sk_330, sl_330, sk_355, sk_356, sl_356, sk_357, sl_357, sk_358, sl_358, sk_359, sl_359, sk_360, sl_360, sk_361, sk_362, sl_362, sk_363, sk_376, sk_377, sl_377, sk_378, sk_379, sl_379, sk_380, sl_380, sk_381, sl_381, sk_382, sl_382, sk_383, sl_383, sk_384, sl_384, sk_385, sl_385, sk_386, sl_386, sk_387, sl_387, sk_388, sl_388, sk_389, sl_389, sk_390, sl_390, sk_391, sl_391, sk_392, sl_392, sk_393, sl_393, sk_394, sl_394, sr_0_0, sr_0_1, sr_0_2, sr_0_3, sr_0_4, sr_0_5, sr_0_6, sr_0_7, sr_0_8, sr_0_9, sr_1_0, sr_1_1, sr_1_2, sr_13_0, sr_15_0, sr_15_2, sr_40_0, sr_355_0, sr_355_1, sr_355_2, sr_355_3, sr_355_4, sr_355_5, sr_361_2, sr_361_5, sr_361_6, sr_363_0, sr_363_1, sr_376_0, sr_376_2, sr_378_0, sr_378_1, sr_378_2, sr_378_4, sr_378_8, sr_378_10, sr_378_11, sr_378_12, sr_378_14, sr_378_20, sr_378_21, sr_378_22, sr_378_23, sr_378_24, sr_378_25, sr_378_26, am_vs]
        rw [if_pos (by omega)]
        exact ih _ _ _
    rw [eX10_sure_74]
    simp (disch := first | omega | simp only [am_ci, am_cr, am_ca]) only [eX10_sure_76, eX10_sure_77, eX10_sure_80, eX10_sure_81, am_bi, Int.reduceEq, Int.reduceLT, Int.reduceLE, Int.reduceToNat, ite_self, Decidable.not_not, not_true_eq_false, not_false_eq_true, ↓reduceIte, am_ci, am_cr, am_ca, am_b0, am_b1, am_ts, am_tn, am_then_some, List.cons_append, List.nil_append, ne_eq, iI_lit, iI_add, iI_sub, iI_mul, iI_neg, iI_lt, iI_le, iI_eq, iI_in, iI_clz, dI_ap, dI_wr, setR_s, wE_R, setR_2, setR_n, setR_o, updI_s, updI_n, updI_2, tl_0, tl_1, tl_2, tl_3, tl_4, tl_5, tl_6, tl_7, tl_8, tl_9, tl_10, tl_11, tl_12, tl_13, tl_14, tl_15, tl_16, tn_3, tn_5, tn_13, tn_21, tn_29, tn_33, tn_37, tn_41, tn_45, tn_49, tn_53, tn_57, tn_61, tn_40, tn_p, tn_0, true_and, and_true, sk_0, sk_1, sk_2, sl_2, sk_3, sl_3, sk_4, sl_4, sk_5, sl_5, sk_6, sl_6, sk_7, sl_7, sk_8, sl_8, sk_9, sl_9, sk_10, sl_10, sk_11, sl_11, sk_12, sl_12, sk_13, sk_14, sl_14, sk_15, sk_40, sk_41, sl_41, sk_330, sl_330, sk_355, sk_356, sl_356, sk_357, sl_357, sk_358, sl_358, sk_359, sl_359, sk_360, sl_360, sk_361, sk_362, sl_362, sk_363, sk_376, sk_377, sl_377, sk_378, sk_379, sl_379, sk_380, sl_380, sk_381, sl_381, sk_382, sl_382, sk_383, sl_383, sk_384, sl_384, sk_385, sl_385, sk_386, sl_386, sk_387, sl_387, sk_388, sl_388, sk_389, sl_389, sk_390, sl_390, sk_391, sl_391, sk_392, sl_392, sk_393, sl_393, sk_394, sl_394, sr_0_0, sr_0_1, sr_0_2, sr_0_3, sr_0_4, sr_0_5, sr_0_6, sr_0_7, sr_0_8, sr_0_9, sr_1_0, sr_1_1, sr_1_2, sr_13_0, sr_15_0, sr_15_2, sr_40_0, sr_355_0, sr_355_1, sr_355_2, sr_355_3, sr_355_4, sr_355_5, sr_361_2, sr_361_5, sr_361_6, sr_363_0, sr_363_1, sr_376_0, sr_376_2, sr_378_0, sr_378_1, sr_378_2, sr_378_4, sr_378_8, sr_378_10, sr_378_11, sr_378_12, sr_378_14, sr_378_20, sr_378_21, sr_378_22, sr_378_23, sr_378_24, sr_378_25, sr_378_26, am_vs]
    rw [if_neg (by omega)]
    have h2 := am_loop (P := fun p => ∀ v6 v7, am_ev (am_sem d) 10 cX10_sure 83 [.ref 378, .int (iI y), .int (iI k), .int (iI N), .int (iI j), .int (iI p), v6, v7] [] am_S0 (dI (setR (setR E 390 w) 391 (csT w (E 394) c N p))) R) (n := N) ?_ ?_ (k := 0) (by omega)
    · have e : csT w (E 394) c N 0 = c := by funext x; unfold csT; rw [if_neg (by omega)]
      rw [e] at h2
      exact h2 _ _
    · intro p hp ih2 v6 v7
      rw [← csT_s] at ih2
      rw [eX10_sure_83]
      simp (disch := first | omega | simp only [am_ci, am_cr, am_ca]) only [eX10_sure_85, eX10_sure_86, eX10_sure_89, eX10_sure_90, eX10_sure_93, eX10_sure_95, eX10_sure_96, eX10_sure_97, eX10_sure_98, am_bi, Int.reduceEq, Int.reduceLT, Int.reduceLE, Int.reduceToNat, ite_self, Decidable.not_not, not_true_eq_false, not_false_eq_true, ↓reduceIte, am_ci, am_cr, am_ca, am_b0, am_b1, am_ts, am_tn, am_then_some, List.cons_append, List.nil_append, ne_eq, iI_lit, iI_add, iI_sub, iI_mul, iI_neg, iI_lt, iI_le, iI_eq, iI_in, iI_clz, dI_ap, dI_wr, setR_s, wE_R, setR_2, setR_n, setR_o, updI_s, updI_n, updI_2, tl_0, tl_1, tl_2, tl_3, tl_4, tl_5, tl_6, tl_7, tl_8, tl_9, tl_10, tl_11, tl_12, tl_13, tl_14, tl_15, tl_16, tn_3, tn_5, tn_13, tn_21, tn_29, tn_33, tn_37, tn_41, tn_45, tn_49, tn_53, tn_57, tn_61, tn_40, tn_p, tn_0, true_and, and_true, sk_0, sk_1, sk_2, sl_2, sk_3, sl_3, sk_4, sl_4, sk_5, sl_5, sk_6, sl_6, sk_7, sl_7, sk_8, sl_8, sk_9, sl_9, sk_10, sl_10, sk_11, sl_11, sk_12, sl_12, sk_13, sk_14, sl_14, sk_15, sk_40, sk_41, sl_41, sk_330, sl_330, sk_355, sk_356, sl_356, sk_357, sl_357, sk_358, sl_358, sk_359, sl_359, sk_360, sl_360, sk_361, sk_362, sl_362, sk_363, sk_376, sk_377, sl_377, sk_378, sk_379, sl_379, sk_380, sl_380, sk_381, sl_381, sk_382, sl_382, sk_383, sl_383, sk_384, sl_384, sk_385, sl_385, sk_386, sl_386, sk_387, sl_387, sk_388, sl_388, sk_389, sl_389, sk_390, sl_390, sk_391, sl_391, sk_392, sl_392, sk_393, sl_393, sk_394, sl_394, sr_0_0, sr_0_1, sr_0_2, sr_0_3, sr_0_4, sr_0_5, sr_0_6, sr_0_7, sr_0_8, sr_0_9, sr_1_0, sr_1_1, sr_1_2, sr_13_0, sr_15_0, sr_15_2, sr_40_0, sr_355_0, sr_355_1, sr_355_2, sr_355_3, sr_355_4, sr_355_5, sr_361_2, sr_361_5, sr_361_6, sr_363_0, sr_363_1, sr_376_0, sr_376_2, sr_378_0, sr_378_1, sr_378_2, sr_378_4, sr_378_8, sr_378_10, sr_378_11, sr_378_12, sr_378_14, sr_378_20, sr_378_21, sr_378_22, sr_378_23, sr_378_24, sr_378_25, sr_378_26, am_vs]
      rw [if_neg (by omega)]
      refine am_loop (P := fun q => ∀ v7, am_ev (am_sem d) 10 cX10_sure 100 [.ref 378, .int (iI y), .int (iI k), .int (iI N), .int (iI j), .int (iI p), .int (iI q), v7] [] am_S0 (dI (setR (setR E 390 w) 391 (updI (csT w (E 394) c N p) p (mxQ w (E 394) p q)))) R) (n := N) ?_ ?_ (k := 0) (by omega) _
      · intro q hq ih3 v7
        have b1 := hQ p q hp (by omega)
        have b2 := hb q hq
        have b3 := hs (6 * q + p) (by omega)
        have t1 : (6 * (q : Int) + (p : Int)).toNat = 6 * q + p := by omega
        rw [mxQ_s] at ih3
        unfold mxI at ih3
        rw [eX10_sure_100]
        simp (disch := first | omega | simp only [am_ci, am_cr, am_ca]) only [eX10_sure_102, eX10_sure_103, eX10_sure_106, eX10_sure_107, eX10_sure_110, eX10_sure_112, eX10_sure_113, eX10_sure_114, eX10_sure_117, eX10_sure_119, eX10_sure_121, eX10_sure_122, eX10_sure_124, eX10_sure_125, eX10_sure_126, eX10_sure_127, eX10_sure_129, eX10_sure_130, eX10_sure_133, eX10_sure_135, eX10_sure_137, eX10_sure_138, eX10_sure_141, eX10_sure_143, eX10_sure_144, eX10_sure_147, eX10_sure_149, eX10_sure_152, eX10_sure_153, eX10_sure_156, eX10_sure_158, eX10_sure_159, eX10_sure_160, eX10_sure_163, am_bi, Int.reduceEq, Int.reduceLT, Int.reduceLE, Int.reduceToNat, ite_self, Decidable.not_not, not_true_eq_false, not_false_eq_true, ↓reduceIte, am_ci, am_cr, am_ca, am_b0, am_b1, am_ts, am_tn, am_then_some, List.cons_append, List.nil_append, ne_eq, iI_lit, iI_add, iI_sub, iI_mul, iI_neg, iI_lt, iI_le, iI_eq, iI_in, iI_clz, dI_ap, dI_wr, setR_s, wE_R, setR_2, setR_n, setR_o, updI_s, updI_n, updI_2, tl_0, tl_1, tl_2, tl_3, tl_4, tl_5, tl_6, tl_7, tl_8, tl_9, tl_10, tl_11, tl_12, tl_13, tl_14, tl_15, tl_16, tn_3, tn_5, tn_13, tn_21, tn_29, tn_33, tn_37, tn_41, tn_45, tn_49, tn_53, tn_57, tn_61, tn_40, tn_p, tn_0, true_and, and_true, sk_0, sk_1, sk_2, sl_2, sk_3, sl_3, sk_4, sl_4, sk_5, sl_5, sk_6, sl_6, sk_7, sl_7, sk_8, sl_8, sk_9, sl_9, sk_10, sl_10, sk_11, sl_11, sk_12, sl_12, sk_13, sk_14, sl_14, sk_15, sk_40, sk_41, sl_41, sk_330, sl_330, sk_355, sk_356, sl_356, sk_357, sl_357, sk_358, sl_358, sk_359, sl_359, sk_360, sl_360, sk_361, sk_362, sl_362, sk_363, sk_376, sk_377, sl_377, sk_378, sk_379, sl_379, sk_380, sl_380, sk_381, sl_381, sk_382, sl_382, sk_383, sl_383, sk_384, sl_384, sk_385, sl_385, sk_386, sl_386, sk_387, sl_387, sk_388, sl_388, sk_389, sl_389, sk_390, sl_390, sk_391, sl_391, sk_392, sl_392, sk_393, sl_393, sk_394, sl_394, sr_0_0, sr_0_1, sr_0_2, sr_0_3, sr_0_4, sr_0_5, sr_0_6, sr_0_7, sr_0_8, sr_0_9, sr_1_0, sr_1_1, sr_1_2, sr_13_0, sr_15_0, sr_15_2, sr_40_0, sr_355_0, sr_355_1, sr_355_2, sr_355_3, sr_355_4, sr_355_5, sr_361_2, sr_361_5, sr_361_6, sr_363_0, sr_363_1, sr_376_0, sr_376_2, sr_378_0, sr_378_1, sr_378_2, sr_378_4, sr_378_8, sr_378_10, sr_378_11, sr_378_12, sr_378_14, sr_378_20, sr_378_21, sr_378_22, sr_378_23, sr_378_24, sr_378_25, sr_378_26, am_vs, t1]
        rw [if_neg (by omega)]
        by_cases h : mxQ w (E 394) p q < w q + E 394 (6 * q + p)
        · rw [if_pos h] at ih3
          repeat (first | rw [if_pos (by omega)] | rw [if_neg (by omega)])
          exact ih3 _
        · rw [if_neg h] at ih3
          repeat (first | rw [if_pos (by omega)] | rw [if_neg (by omega)])
          exact ih3 _
      · intro v7
        rw [eX10_sure_100]
        simp (disch := first | omega | simp only [am_ci, am_cr, am_ca]) only [eX10_sure_102, eX10_sure_103, eX10_sure_106, eX10_sure_107, eX10_sure_110, eX10_sure_112, eX10_sure_113, eX10_sure_114, eX10_sure_117, eX10_sure_119, eX10_sure_121, eX10_sure_122, eX10_sure_124, eX10_sure_125, eX10_sure_126, eX10_sure_127, eX10_sure_129, eX10_sure_130, eX10_sure_133, eX10_sure_135, eX10_sure_137, eX10_sure_138, eX10_sure_141, eX10_sure_143, eX10_sure_144, eX10_sure_147, eX10_sure_149, eX10_sure_152, eX10_sure_153, eX10_sure_156, eX10_sure_158, eX10_sure_159, eX10_sure_160, eX10_sure_163, eX10_sure_166, eX10_sure_169, am_bi, Int.reduceEq, Int.reduceLT, Int.reduceLE, Int.reduceToNat, ite_self, Decidable.not_not, not_true_eq_false, not_false_eq_true, ↓reduceIte, am_ci, am_cr, am_ca, am_b0, am_b1, am_ts, am_tn, am_then_some, List.cons_append, List.nil_append, ne_eq, iI_lit, iI_add, iI_sub, iI_mul, iI_neg, iI_lt, iI_le, iI_eq, iI_in, iI_clz, dI_ap, dI_wr, setR_s, wE_R, setR_2, setR_n, setR_o, updI_s, updI_n, updI_2, tl_0, tl_1, tl_2, tl_3, tl_4, tl_5, tl_6, tl_7, tl_8, tl_9, tl_10, tl_11, tl_12, tl_13, tl_14, tl_15, tl_16, tn_3, tn_5, tn_13, tn_21, tn_29, tn_33, tn_37, tn_41, tn_45, tn_49, tn_53, tn_57, tn_61, tn_40, tn_p, tn_0, true_and, and_true, sk_0, sk_1, sk_2, sl_2, sk_3, sl_3, sk_4, sl_4, sk_5, sl_5, sk_6, sl_6, sk_7, sl_7, sk_8, sl_8, sk_9, sl_9, sk_10, sl_10, sk_11, sl_11, sk_12, sl_12, sk_13, sk_14, sl_14, sk_15, sk_40, sk_41, sl_41, sk_330, sl_330, sk_355, sk_356, sl_356, sk_357, sl_357, sk_358, sl_358, sk_359, sl_359, sk_360, sl_360, sk_361, sk_362, sl_362, sk_363, sk_376, sk_377, sl_377, sk_378, sk_379, sl_379, sk_380, sl_380, sk_381, sl_381, sk_382, sl_382, sk_383, sl_383, sk_384, sl_384, sk_385, sl_385, sk_386, sl_386, sk_387, sl_387, sk_388, sl_388, sk_389, sl_389, sk_390, sl_390, sk_391, sl_391, sk_392, sl_392, sk_393, sl_393, sk_394, sl_394, sr_0_0, sr_0_1, sr_0_2, sr_0_3, sr_0_4, sr_0_5, sr_0_6, sr_0_7, sr_0_8, sr_0_9, sr_1_0, sr_1_1, sr_1_2, sr_13_0, sr_15_0, sr_15_2, sr_40_0, sr_355_0, sr_355_1, sr_355_2, sr_355_3, sr_355_4, sr_355_5, sr_361_2, sr_361_5, sr_361_6, sr_363_0, sr_363_1, sr_376_0, sr_376_2, sr_378_0, sr_378_1, sr_378_2, sr_378_4, sr_378_8, sr_378_10, sr_378_11, sr_378_12, sr_378_14, sr_378_20, sr_378_21, sr_378_22, sr_378_23, sr_378_24, sr_378_25, sr_378_26, am_vs]
        rw [if_pos (by omega)]
        exact ih2 _ _
    · intro v6 v7
      rw [eX10_sure_83]
      simp (disch := first | omega | simp only [am_ci, am_cr, am_ca]) only [eX10_sure_85, eX10_sure_86, eX10_sure_89, eX10_sure_90, eX10_sure_93, eX10_sure_95, eX10_sure_96, eX10_sure_97, eX10_sure_98, eX10_sure_102, eX10_sure_103, eX10_sure_106, eX10_sure_107, eX10_sure_110, eX10_sure_112, eX10_sure_113, eX10_sure_114, eX10_sure_117, eX10_sure_119, eX10_sure_121, eX10_sure_122, eX10_sure_124, eX10_sure_125, eX10_sure_126, eX10_sure_127, eX10_sure_129, eX10_sure_130, eX10_sure_133, eX10_sure_135, eX10_sure_137, eX10_sure_138, eX10_sure_141, eX10_sure_143, eX10_sure_144, eX10_sure_147, eX10_sure_149, eX10_sure_152, eX10_sure_153, eX10_sure_156, eX10_sure_158, eX10_sure_159, eX10_sure_160, eX10_sure_163, eX10_sure_166, eX10_sure_169, eX10_sure_172, eX10_sure_173, am_bi, Int.reduceEq, Int.reduceLT, Int.reduceLE, Int.reduceToNat, ite_self, Decidable.not_not, not_true_eq_false, not_false_eq_true, ↓reduceIte, am_ci, am_cr, am_ca, am_b0, am_b1, am_ts, am_tn, am_then_some, List.cons_append, List.nil_append, ne_eq, iI_lit, iI_add, iI_sub, iI_mul, iI_neg, iI_lt, iI_le, iI_eq, iI_in, iI_clz, dI_ap, dI_wr, setR_s, wE_R, setR_2, setR_n, setR_o, updI_s, updI_n, updI_2, tl_0, tl_1, tl_2, tl_3, tl_4, tl_5, tl_6, tl_7, tl_8, tl_9, tl_10, tl_11, tl_12, tl_13, tl_14, tl_15, tl_16, tn_3, tn_5, tn_13, tn_21, tn_29, tn_33, tn_37, tn_41, tn_45, tn_49, tn_53, tn_57, tn_61, tn_40, tn_p, tn_0, true_and, and_true, sk_0, sk_1, sk_2, sl_2, sk_3, sl_3, sk_4, sl_4, sk_5, sl_5, sk_6, sl_6, sk_7, sl_7, sk_8, sl_8, sk_9, sl_9, sk_10, sl_10, sk_11, sl_11, sk_12, sl_12, sk_13, sk_14, sl_14, sk_15, sk_40, sk_41, sl_41, sk_330, sl_330, sk_355, sk_356, sl_356, sk_357, sl_357, sk_358, sl_358, sk_359, sl_359, sk_360, sl_360, sk_361, sk_362, sl_362, sk_363, sk_376, sk_377, sl_377, sk_378, sk_379, sl_379, sk_380, sl_380, sk_381, sl_381, sk_382, sl_382, sk_383, sl_383, sk_384, sl_384, sk_385, sl_385, sk_386, sl_386, sk_387, sl_387, sk_388, sl_388, sk_389, sl_389, sk_390, sl_390, sk_391, sl_391, sk_392, sl_392, sk_393, sl_393, sk_394, sl_394, sr_0_0, sr_0_1, sr_0_2, sr_0_3, sr_0_4, sr_0_5, sr_0_6, sr_0_7, sr_0_8, sr_0_9, sr_1_0, sr_1_1, sr_1_2, sr_13_0, sr_15_0, sr_15_2, sr_40_0, sr_355_0, sr_355_1, sr_355_2, sr_355_3, sr_355_4, sr_355_5, sr_361_2, sr_361_5, sr_361_6, sr_363_0, sr_363_1, sr_376_0, sr_376_2, sr_378_0, sr_378_1, sr_378_2, sr_378_4, sr_378_8, sr_378_10, sr_378_11, sr_378_12, sr_378_14, sr_378_20, sr_378_21, sr_378_22, sr_378_23, sr_378_24, sr_378_25, sr_378_26, am_vs]
      rw [if_pos (by omega)]
      exact L2 _ _
  · intro v5 v6 v7
    have hb := tuW_b (c := E 391) hN hw hs k
    generalize (tuW (E 394) N (E 390) (E 391) k).1 = w at *
    generalize (tuW (E 394) N (E 390) (E 391) k).2 = c at *
    have hM : ∀ p, p ≤ N → 0 ≤ mxL w p ∧ mxL w p ≤ 10000000 := fun p hp => mxL_b (fun q hq => by have := hb q hq; omega) p hp
    rw [eX10_sure_74]
    simp (disch := first | omega | simp only [am_ci, am_cr, am_ca]) only [eX10_sure_76, eX10_sure_77, eX10_sure_80, eX10_sure_81, eX10_sure_85, eX10_sure_86, eX10_sure_89, eX10_sure_90, eX10_sure_93, eX10_sure_95, eX10_sure_96, eX10_sure_97, eX10_sure_98, eX10_sure_102, eX10_sure_103, eX10_sure_106, eX10_sure_107, eX10_sure_110, eX10_sure_112, eX10_sure_113, eX10_sure_114, eX10_sure_117, eX10_sure_119, eX10_sure_121, eX10_sure_122, eX10_sure_124, eX10_sure_125, eX10_sure_126, eX10_sure_127, eX10_sure_129, eX10_sure_130, eX10_sure_133, eX10_sure_135, eX10_sure_137, eX10_sure_138, eX10_sure_141, eX10_sure_143, eX10_sure_144, eX10_sure_147, eX10_sure_149, eX10_sure_152, eX10_sure_153, eX10_sure_156, eX10_sure_158, eX10_sure_159, eX10_sure_160, eX10_sure_163, eX10_sure_166, eX10_sure_169, eX10_sure_172, eX10_sure_173, eX10_sure_177, eX10_sure_178, eX10_sure_181, eX10_sure_182, eX10_sure_185, eX10_sure_187, eX10_sure_188, eX10_sure_191, eX10_sure_193, eX10_sure_194, eX10_sure_195, eX10_sure_198, eX10_sure_201, eX10_sure_204, eX10_sure_207, eX10_sure_208, eX10_sure_210, eX10_sure_211, am_bi, Int.reduceEq, Int.reduceLT, Int.reduceLE, Int.reduceToNat, ite_self, Decidable.not_not, not_true_eq_false, not_false_eq_true, ↓reduceIte, am_ci, am_cr, am_ca, am_b0, am_b1, am_ts, am_tn, am_then_some, List.cons_append, List.nil_append, ne_eq, iI_lit, iI_add, iI_sub, iI_mul, iI_neg, iI_lt, iI_le, iI_eq, iI_in, iI_clz, dI_ap, dI_wr, setR_s, wE_R, setR_2, setR_n, setR_o, updI_s, updI_n, updI_2, tl_0, tl_1, tl_2, tl_3, tl_4, tl_5, tl_6, tl_7, tl_8, tl_9, tl_10, tl_11, tl_12, tl_13, tl_14, tl_15, tl_16, tn_3, tn_5, tn_13, tn_21, tn_29, tn_33, tn_37, tn_41, tn_45, tn_49, tn_53, tn_57, tn_61, tn_40, tn_p, tn_0, true_and, and_true, sk_0, sk_1, sk_2, sl_2, sk_3, sl_3, sk_4, sl_4, sk_5, sl_5, sk_6, sl_6, sk_7, sl_7, sk_8, sl_8, sk_9, sl_9, sk_10, sl_10, sk_11, sl_11, sk_12, sl_12, sk_13, sk_14, sl_14, sk_15, sk_40, sk_41, sl_41, sk_330, sl_330, sk_355, sk_356, sl_356, sk_357, sl_357, sk_358, sl_358, sk_359, sl_359, sk_360, sl_360, sk_361, sk_362, sl_362, sk_363, sk_376, sk_377, sl_377, sk_378, sk_379, sl_379, sk_380, sl_380, sk_381, sl_381, sk_382, sl_382, sk_383, sl_383, sk_384, sl_384, sk_385, sl_385, sk_386, sl_386, sk_387, sl_387, sk_388, sl_388, sk_389, sl_389, sk_390, sl_390, sk_391, sl_391, sk_392, sl_392, sk_393, sl_393, sk_394, sl_394, sr_0_0, sr_0_1, sr_0_2, sr_0_3, sr_0_4, sr_0_5, sr_0_6, sr_0_7, sr_0_8, sr_0_9, sr_1_0, sr_1_1, sr_1_2, sr_13_0, sr_15_0, sr_15_2, sr_40_0, sr_355_0, sr_355_1, sr_355_2, sr_355_3, sr_355_4, sr_355_5, sr_361_2, sr_361_5, sr_361_6, sr_363_0, sr_363_1, sr_376_0, sr_376_2, sr_378_0, sr_378_1, sr_378_2, sr_378_4, sr_378_8, sr_378_10, sr_378_11, sr_378_12, sr_378_14, sr_378_20, sr_378_21, sr_378_22, sr_378_23, sr_378_24, sr_378_25, sr_378_26, am_vs]
    rw [if_pos (by omega)]
    refine am_loop (P := fun p => ∀ v6 v7, am_ev (am_sem d) 10 cX10_sure 213 [.ref 378, .int (iI y), .int (iI k), .int (iI N), .int (iI (mxL w p)), .int (iI p), v6, v7] [] am_S0 (dI (setR (setR E 390 w) 391 c)) R) (n := N) ?_ ?_ (k := 0) (by omega) _ _
    · intro p hp ih v6 v7
      have b1 := hM p (by omega)
      have b2 := hb p hp
      rw [mxL_s] at ih
      unfold mxI at ih
      rw [eX10_sure_213]
      simp (disch := first | omega | simp only [am_ci, am_cr, am_ca]) only [eX10_sure_215, eX10_sure_216, eX10_sure_219, eX10_sure_220, eX10_sure_223, eX10_sure_225, eX10_sure_226, eX10_sure_228, eX10_sure_231, eX10_sure_232, eX10_sure_235, eX10_sure_237, eX10_sure_238, eX10_sure_241, eX10_sure_243, eX10_sure_245, eX10_sure_248, am_bi, Int.reduceEq, Int.reduceLT, Int.reduceLE, Int.reduceToNat, ite_self, Decidable.not_not, not_true_eq_false, not_false_eq_true, ↓reduceIte, am_ci, am_cr, am_ca, am_b0, am_b1, am_ts, am_tn, am_then_some, List.cons_append, List.nil_append, ne_eq, iI_lit, iI_add, iI_sub, iI_mul, iI_neg, iI_lt, iI_le, iI_eq, iI_in, iI_clz, dI_ap, dI_wr, setR_s, wE_R, setR_2, setR_n, setR_o, updI_s, updI_n, updI_2, tl_0, tl_1, tl_2, tl_3, tl_4, tl_5, tl_6, tl_7, tl_8, tl_9, tl_10, tl_11, tl_12, tl_13, tl_14, tl_15, tl_16, tn_3, tn_5, tn_13, tn_21, tn_29, tn_33, tn_37, tn_41, tn_45, tn_49, tn_53, tn_57, tn_61, tn_40, tn_p, tn_0, true_and, and_true, sk_0, sk_1, sk_2, sl_2, sk_3, sl_3, sk_4, sl_4, sk_5, sl_5, sk_6, sl_6, sk_7, sl_7, sk_8, sl_8, sk_9, sl_9, sk_10, sl_10, sk_11, sl_11, sk_12, sl_12, sk_13, sk_14, sl_14, sk_15, sk_40, sk_41, sl_41, sk_330, sl_330, sk_355, sk_356, sl_356, sk_357, sl_357, sk_358, sl_358, sk_359, sl_359, sk_360, sl_360, sk_361, sk_362, sl_362, sk_363, sk_376, sk_377, sl_377, sk_378, sk_379, sl_379, sk_380, sl_380, sk_381, sl_381, sk_382, sl_382, sk_383, sl_383, sk_384, sl_384, sk_385, sl_385, sk_386, sl_386, sk_387, sl_387, sk_388, sl_388, sk_389, sl_389, sk_390, sl_390, sk_391, sl_391, sk_392, sl_392, sk_393, sl_393, sk_394, sl_394, sr_0_0, sr_0_1, sr_0_2, sr_0_3, sr_0_4, sr_0_5, sr_0_6, sr_0_7, sr_0_8, sr_0_9, sr_1_0, sr_1_1, sr_1_2, sr_13_0, sr_15_0, sr_15_2, sr_40_0, sr_355_0, sr_355_1, sr_355_2, sr_355_3, sr_355_4, sr_355_5, sr_361_2, sr_361_5, sr_361_6, sr_363_0, sr_363_1, sr_376_0, sr_376_2, sr_378_0, sr_378_1, sr_378_2, sr_378_4, sr_378_8, sr_378_10, sr_378_11, sr_378_12, sr_378_14, sr_378_20, sr_378_21, sr_378_22, sr_378_23, sr_378_24, sr_378_25, sr_378_26, am_vs]
      rw [if_neg (by omega)]
      by_cases h : mxL w p < w p
      · rw [if_pos h] at ih
        repeat (first | rw [if_pos (by omega)] | rw [if_neg (by omega)])
        exact ih _ _
      · rw [if_neg h] at ih
        repeat (first | rw [if_pos (by omega)] | rw [if_neg (by omega)])
        exact ih _ _
    · intro v6 v7
      have b1 := hM N (by omega)
      rw [eX10_sure_213, ← hR]
      simp (disch := first | omega | simp only [am_ci, am_cr, am_ca]) only [eX10_sure_215, eX10_sure_216, eX10_sure_219, eX10_sure_220, eX10_sure_223, eX10_sure_225, eX10_sure_226, eX10_sure_228, eX10_sure_231, eX10_sure_232, eX10_sure_235, eX10_sure_237, eX10_sure_238, eX10_sure_241, eX10_sure_243, eX10_sure_245, eX10_sure_248, eX10_sure_251, eX10_sure_253, eX10_sure_256, eX10_sure_259, eX10_sure_261, eX10_sure_264, eX10_sure_266, am_bi, Int.reduceEq, Int.reduceLT, Int.reduceLE, Int.reduceToNat, ite_self, Decidable.not_not, not_true_eq_false, not_false_eq_true, ↓reduceIte, am_ci, am_cr, am_ca, am_b0, am_b1, am_ts, am_tn, am_then_some, List.cons_append, List.nil_append, ne_eq, iI_lit, iI_add, iI_sub, iI_mul, iI_neg, iI_lt, iI_le, iI_eq, iI_in, iI_clz, dI_ap, dI_wr, setR_s, wE_R, setR_2, setR_n, setR_o, updI_s, updI_n, updI_2, tl_0, tl_1, tl_2, tl_3, tl_4, tl_5, tl_6, tl_7, tl_8, tl_9, tl_10, tl_11, tl_12, tl_13, tl_14, tl_15, tl_16, tn_3, tn_5, tn_13, tn_21, tn_29, tn_33, tn_37, tn_41, tn_45, tn_49, tn_53, tn_57, tn_61, tn_40, tn_p, tn_0, true_and, and_true, sk_0, sk_1, sk_2, sl_2, sk_3, sl_3, sk_4, sl_4, sk_5, sl_5, sk_6, sl_6, sk_7, sl_7, sk_8, sl_8, sk_9, sl_9, sk_10, sl_10, sk_11, sl_11, sk_12, sl_12, sk_13, sk_14, sl_14, sk_15, sk_40, sk_41, sl_41, sk_330, sl_330, sk_355, sk_356, sl_356, sk_357, sl_357, sk_358, sl_358, sk_359, sl_359, sk_360, sl_360, sk_361, sk_362, sl_362, sk_363, sk_376, sk_377, sl_377, sk_378, sk_379, sl_379, sk_380, sl_380, sk_381, sl_381, sk_382, sl_382, sk_383, sl_383, sk_384, sl_384, sk_385, sl_385, sk_386, sl_386, sk_387, sl_387, sk_388, sl_388, sk_389, sl_389, sk_390, sl_390, sk_391, sl_391, sk_392, sl_392, sk_393, sl_393, sk_394, sl_394, sr_0_0, sr_0_1, sr_0_2, sr_0_3, sr_0_4, sr_0_5, sr_0_6, sr_0_7, sr_0_8, sr_0_9, sr_1_0, sr_1_1, sr_1_2, sr_13_0, sr_15_0, sr_15_2, sr_40_0, sr_355_0, sr_355_1, sr_355_2, sr_355_3, sr_355_4, sr_355_5, sr_361_2, sr_361_5, sr_361_6, sr_363_0, sr_363_1, sr_376_0, sr_376_2, sr_378_0, sr_378_1, sr_378_2, sr_378_4, sr_378_8, sr_378_10, sr_378_11, sr_378_12, sr_378_14, sr_378_20, sr_378_21, sr_378_22, sr_378_23, sr_378_24, sr_378_25, sr_378_26, am_vs]
      all_goals ((repeat' split) <;> first | rfl | trivial | (exfalso; omega))
theorem r_sure {d : Nat} {y z : Int} {E : Nat → Nat → Int} (hy : i32 y) (hz : i32 z) (hw : wT (E 383)) (h9 : z85 (E 389)) : ∃ E', scr E E' ∧ am_sem (d + 5) 191 [.ref 378, .int (iI y), .int (iI z)] am_S0 (dI E) = some (some (.int (iI (if (0 ≤ y ∧ y < E 383 4) ∧ 0 ≤ z ∧ z ≤ 3 then suV (trE E 0 y.toNat 150 390) (sgT (E 383) (E 394)) (E 383 0).toNat z.toNat (E 391) else -1000001))), am_S0, dI E') := by
  have hb := hw.1.1
  have H2 := r_isNews (d := d + 2) (E := E) hy hb.1
  have a0 := hb.2.1
  have a3 := hb.2.2.2.2.1
  have a4 := hb.2.2.2.2.2.1
  by_cases h1 : 0 ≤ y ∧ y < E 383 4
  · by_cases h2 : 0 ≤ z ∧ z ≤ 3
    · rw [if_pos ⟨h1, h2⟩]
      obtain ⟨n, rfl⟩ := Int.eq_ofNat_of_zero_le h1.1
      obtain ⟨k, rfl⟩ := Int.eq_ofNat_of_zero_le h2.1
      obtain ⟨N, hN⟩ := Int.eq_ofNat_of_zero_le a0.1
      rw [hN, show ((n : Int)).toNat = n from rfl, show ((k : Int)).toNat = k from rfl, show ((N : Int)).toNat = N from rfl]
      have H3 : am_sem (d + 4) 179 [.ref 378, .int (iI 0), .int (iI n), .int (iI 150)] am_S0 (dI E) = some (none, am_S0, dI (trE E 0 n 150)) := r_tries (m := 0) (by omega) (by omega) hw h9 (by omega) (by omega)
      have W := fun p hp => trE_wo (E := E) (m := 0) (n := n) (till := 150) hw (by omega) (by omega) (p := p) hp
      have o3 : trE E 0 n 150 383 = E 383 := trE_o E _ _ _ (by omega) (by omega)
      have o4 : trE E 0 n 150 394 = E 394 := trE_o E _ _ _ (by omega) (by omega)
      have o1 : trE E 0 n 150 391 = E 391 := trE_o E _ _ _ (by omega) (by omega)
      have H4 := r_laySignals (d := d + 3) (E := trE E 0 n 150) (by rw [o3]; exact hb)
      rw [o3, o4] at H4
      have sB := hB_sg (g := E 394) hb
      have s1 : scr E (setR (trE E 0 n 150) 394 (sgT (E 383) (E 394))) := scr_u (scr_tr hw (by omega) (by omega)) (by omega) _
      generalize hs : sgT (E 383) (E 394) = sg at *
      generalize hwo : trE E 0 n 150 390 = wo at *
      generalize trE E 0 n 150 = F at *
      by_cases hA : ∀ p, p < N → 0 ≤ wo p
      · have hv : suV wo sg N k (E 391) = (if 999 < mxL (tuW sg N wo (E 391) k).1 N then -1000000 else mxL (tuW sg N wo (E 391) k).1 N) := by unfold suV; rw [if_pos hA]
        have T := r_sure_t (d := d + 4) (k := k) (N := N) (y := n) (E := setR F 394 sg) (by omega) (by omega) (by rw [setR_n (by omega), hwo]; exact fun p hp => ⟨hA p hp, by have := W p (by omega); omega⟩) (by rw [setR_s]; exact sB)
        rw [setR_s, setR_n (by omega), setR_n (by omega), hwo, o1, ← hv] at T
        refine ⟨_, scr_u (scr_u s1 (q := 390) (by omega) (tuW sg N wo (E 391) k).1) (q := 391) (by omega) (tuW sg N wo (E 391) k).2, ?_⟩
        refine mX10_sure rfl rfl ?_
        simp (disch := first | omega | simp only [am_ci, am_cr, am_ca]) only [eX10_sure_0, eX10_sure_1, eX10_sure_2, eX10_sure_5, eX10_sure_8, eX10_sure_9, eX10_sure_10, eX10_sure_11, eX10_sure_14, eX10_sure_17, eX10_sure_20, eX10_sure_22, eX10_sure_23, eX10_sure_24, eX10_sure_25, eX10_sure_26, eX10_sure_29, eX10_sure_32, eX10_sure_33, eX10_sure_36, eX10_sure_37, eX10_sure_40, eX10_sure_41, eX10_sure_42, eX10_sure_43, eX10_sure_44, am_bi, Int.reduceEq, Int.reduceLT, Int.reduceLE, Int.reduceToNat, ite_self, Decidable.not_not, not_true_eq_false, not_false_eq_true, ↓reduceIte, am_ci, am_cr, am_ca, am_b0, am_b1, am_ts, am_tn, am_then_some, List.cons_append, List.nil_append, ne_eq, iI_lit, iI_add, iI_sub, iI_mul, iI_neg, iI_lt, iI_le, iI_eq, iI_in, iI_clz, dI_ap, dI_wr, setR_s, wE_R, setR_2, setR_n, setR_o, updI_s, updI_n, updI_2, tl_0, tl_1, tl_2, tl_3, tl_4, tl_5, tl_6, tl_7, tl_8, tl_9, tl_10, tl_11, tl_12, tl_13, tl_14, tl_15, tl_16, tn_3, tn_5, tn_13, tn_21, tn_29, tn_33, tn_37, tn_41, tn_45, tn_49, tn_53, tn_57, tn_61, tn_40, tn_p, tn_0, true_and, and_true, sk_0, sk_1, sk_2, sl_2, sk_3, sl_3, sk_4, sl_4, sk_5, sl_5, sk_6, sl_6, sk_7, sl_7, sk_8, sl_8, sk_9, sl_9, sk_10, sl_10, sk_11, sl_11, sk_12, sl_12, sk_13, sk_14, sl_14, sk_15, sk_40, sk_41, sl_41, sk_330, sl_330, sk_355, sk_356, sl_356, sk_357, sl_357, sk_358, sl_358, sk_359, sl_359, sk_360, sl_360, sk_361, sk_362, sl_362, sk_363, sk_376, sk_377, sl_377, sk_378, sk_379, sl_379, sk_380, sl_380, sk_381, sl_381, sk_382, sl_382, sk_383, sl_383, sk_384, sl_384, sk_385, sl_385, sk_386, sl_386, sk_387, sl_387, sk_388, sl_388, sk_389, sl_389, sk_390, sl_390, sk_391, sl_391, sk_392, sl_392, sk_393, sl_393, sk_394, sl_394, sr_0_0, sr_0_1, sr_0_2, sr_0_3, sr_0_4, sr_0_5, sr_0_6, sr_0_7, sr_0_8, sr_0_9, sr_1_0, sr_1_1, sr_1_2, sr_13_0, sr_15_0, sr_15_2, sr_40_0, sr_355_0, sr_355_1, sr_355_2, sr_355_3, sr_355_4, sr_355_5, sr_361_2, sr_361_5, sr_361_6, sr_363_0, sr_363_1, sr_376_0, sr_376_2, sr_378_0, sr_378_1, sr_378_2, sr_378_4, sr_378_8, sr_378_10, sr_378_11, sr_378_12, sr_378_14, sr_378_20, sr_378_21, sr_378_22, sr_378_23, sr_378_24, sr_378_25, sr_378_26, am_vs, H2, h1, H3, H4, r_in, iL_i, iL_lit, iL_lt, o3, hN]
        repeat (first | rw [if_pos (by omega)] | rw [if_neg (by omega)])
        refine am_loop (P := fun p => am_ev (am_sem (d + 4)) 10 cX10_sure 46 [.ref 378, .int (iI n), .int (iI k), .int (iI N), .int (iI p), .retAddr 0, .retAddr 0, .retAddr 0] [] am_S0 (dI (setR F 394 sg)) _) (n := N) ?_ ?_ (k := 0) (by omega)
        · intro p hp ih
          have b := hA p hp
          have b2 := W p (by omega)
          rw [eX10_sure_46]
          simp (disch := first | omega | simp only [am_ci, am_cr, am_ca]) only [eX10_sure_48, eX10_sure_49, eX10_sure_52, eX10_sure_53, eX10_sure_56, eX10_sure_58, eX10_sure_59, eX10_sure_62, eX10_sure_64, eX10_sure_65, eX10_sure_68, am_bi, Int.reduceEq, Int.reduceLT, Int.reduceLE, Int.reduceToNat, ite_self, Decidable.not_not, not_true_eq_false, not_false_eq_true, ↓reduceIte, am_ci, am_cr, am_ca, am_b0, am_b1, am_ts, am_tn, am_then_some, List.cons_append, List.nil_append, ne_eq, iI_lit, iI_add, iI_sub, iI_mul, iI_neg, iI_lt, iI_le, iI_eq, iI_in, iI_clz, dI_ap, dI_wr, setR_s, wE_R, setR_2, setR_n, setR_o, updI_s, updI_n, updI_2, tl_0, tl_1, tl_2, tl_3, tl_4, tl_5, tl_6, tl_7, tl_8, tl_9, tl_10, tl_11, tl_12, tl_13, tl_14, tl_15, tl_16, tn_3, tn_5, tn_13, tn_21, tn_29, tn_33, tn_37, tn_41, tn_45, tn_49, tn_53, tn_57, tn_61, tn_40, tn_p, tn_0, true_and, and_true, sk_0, sk_1, sk_2, sl_2, sk_3, sl_3, sk_4, sl_4, sk_5, sl_5, sk_6, sl_6, sk_7, sl_7, sk_8, sl_8, sk_9, sl_9, sk_10, sl_10, sk_11, sl_11, sk_12, sl_12, sk_13, sk_14, sl_14, sk_15, sk_40, sk_41, sl_41, sk_330, sl_330, sk_355, sk_356, sl_356, sk_357, sl_357, sk_358, sl_358, sk_359, sl_359, sk_360, sl_360, sk_361, sk_362, sl_362, sk_363, sk_376, sk_377, sl_377, sk_378, sk_379, sl_379, sk_380, sl_380, sk_381, sl_381, sk_382, sl_382, sk_383, sl_383, sk_384, sl_384, sk_385, sl_385, sk_386, sl_386, sk_387, sl_387, sk_388, sl_388, sk_389, sl_389, sk_390, sl_390, sk_391, sl_391, sk_392, sl_392, sk_393, sl_393, sk_394, sl_394, sr_0_0, sr_0_1, sr_0_2, sr_0_3, sr_0_4, sr_0_5, sr_0_6, sr_0_7, sr_0_8, sr_0_9, sr_1_0, sr_1_1, sr_1_2, sr_13_0, sr_15_0, sr_15_2, sr_40_0, sr_355_0, sr_355_1, sr_355_2, sr_355_3, sr_355_4, sr_355_5, sr_361_2, sr_361_5, sr_361_6, sr_363_0, sr_363_1, sr_376_0, sr_376_2, sr_378_0, sr_378_1, sr_378_2, sr_378_4, sr_378_8, sr_378_10, sr_378_11, sr_378_12, sr_378_14, sr_378_20, sr_378_21, sr_378_22, sr_378_23, sr_378_24, sr_378_25, sr_378_26, am_vs, hwo]
          repeat (first | rw [if_pos (by omega)] | rw [if_neg (by omega)])
          exact ih
        · rw [eX10_sure_46]
          simp (disch := first | omega | simp only [am_ci, am_cr, am_ca]) only [eX10_sure_48, eX10_sure_49, eX10_sure_52, eX10_sure_53, eX10_sure_56, eX10_sure_58, eX10_sure_59, eX10_sure_62, eX10_sure_64, eX10_sure_65, eX10_sure_68, eX10_sure_71, eX10_sure_72, am_bi, Int.reduceEq, Int.reduceLT, Int.reduceLE, Int.reduceToNat, ite_self, Decidable.not_not, not_true_eq_false, not_false_eq_true, ↓reduceIte, am_ci, am_cr, am_ca, am_b0, am_b1, am_ts, am_tn, am_then_some, List.cons_append, List.nil_append, ne_eq, iI_lit, iI_add, iI_sub, iI_mul, iI_neg, iI_lt, iI_le, iI_eq, iI_in, iI_clz, dI_ap, dI_wr, setR_s, wE_R, setR_2, setR_n, setR_o, updI_s, updI_n, updI_2, tl_0, tl_1, tl_2, tl_3, tl_4, tl_5, tl_6, tl_7, tl_8, tl_9, tl_10, tl_11, tl_12, tl_13, tl_14, tl_15, tl_16, tn_3, tn_5, tn_13, tn_21, tn_29, tn_33, tn_37, tn_41, tn_45, tn_49, tn_53, tn_57, tn_61, tn_40, tn_p, tn_0, true_and, and_true, sk_0, sk_1, sk_2, sl_2, sk_3, sl_3, sk_4, sl_4, sk_5, sl_5, sk_6, sl_6, sk_7, sl_7, sk_8, sl_8, sk_9, sl_9, sk_10, sl_10, sk_11, sl_11, sk_12, sl_12, sk_13, sk_14, sl_14, sk_15, sk_40, sk_41, sl_41, sk_330, sl_330, sk_355, sk_356, sl_356, sk_357, sl_357, sk_358, sl_358, sk_359, sl_359, sk_360, sl_360, sk_361, sk_362, sl_362, sk_363, sk_376, sk_377, sl_377, sk_378, sk_379, sl_379, sk_380, sl_380, sk_381, sl_381, sk_382, sl_382, sk_383, sl_383, sk_384, sl_384, sk_385, sl_385, sk_386, sl_386, sk_387, sl_387, sk_388, sl_388, sk_389, sl_389, sk_390, sl_390, sk_391, sl_391, sk_392, sl_392, sk_393, sl_393, sk_394, sl_394, sr_0_0, sr_0_1, sr_0_2, sr_0_3, sr_0_4, sr_0_5, sr_0_6, sr_0_7, sr_0_8, sr_0_9, sr_1_0, sr_1_1, sr_1_2, sr_13_0, sr_15_0, sr_15_2, sr_40_0, sr_355_0, sr_355_1, sr_355_2, sr_355_3, sr_355_4, sr_355_5, sr_361_2, sr_361_5, sr_361_6, sr_363_0, sr_363_1, sr_376_0, sr_376_2, sr_378_0, sr_378_1, sr_378_2, sr_378_4, sr_378_8, sr_378_10, sr_378_11, sr_378_12, sr_378_14, sr_378_20, sr_378_21, sr_378_22, sr_378_23, sr_378_24, sr_378_25, sr_378_26, am_vs]
          repeat (first | rw [if_pos (by omega)] | rw [if_neg (by omega)])
          exact T _ _ _
      · have hv : suV wo sg N k (E 391) = -1000000 := by unfold suV; rw [if_neg hA]
        rw [hv]
        refine ⟨_, s1, ?_⟩
        refine mX10_sure rfl rfl ?_
        simp (disch := first | omega | simp only [am_ci, am_cr, am_ca]) only [eX10_sure_0, eX10_sure_1, eX10_sure_2, eX10_sure_5, eX10_sure_8, eX10_sure_9, eX10_sure_10, eX10_sure_11, eX10_sure_14, eX10_sure_17, eX10_sure_20, eX10_sure_22, eX10_sure_23, eX10_sure_24, eX10_sure_25, eX10_sure_26, eX10_sure_29, eX10_sure_32, eX10_sure_33, eX10_sure_36, eX10_sure_37, eX10_sure_40, eX10_sure_41, eX10_sure_42, eX10_sure_43, eX10_sure_44, am_bi, Int.reduceEq, Int.reduceLT, Int.reduceLE, Int.reduceToNat, ite_self, Decidable.not_not, not_true_eq_false, not_false_eq_true, ↓reduceIte, am_ci, am_cr, am_ca, am_b0, am_b1, am_ts, am_tn, am_then_some, List.cons_append, List.nil_append, ne_eq, iI_lit, iI_add, iI_sub, iI_mul, iI_neg, iI_lt, iI_le, iI_eq, iI_in, iI_clz, dI_ap, dI_wr, setR_s, wE_R, setR_2, setR_n, setR_o, updI_s, updI_n, updI_2, tl_0, tl_1, tl_2, tl_3, tl_4, tl_5, tl_6, tl_7, tl_8, tl_9, tl_10, tl_11, tl_12, tl_13, tl_14, tl_15, tl_16, tn_3, tn_5, tn_13, tn_21, tn_29, tn_33, tn_37, tn_41, tn_45, tn_49, tn_53, tn_57, tn_61, tn_40, tn_p, tn_0, true_and, and_true, sk_0, sk_1, sk_2, sl_2, sk_3, sl_3, sk_4, sl_4, sk_5, sl_5, sk_6, sl_6, sk_7, sl_7, sk_8, sl_8, sk_9, sl_9, sk_10, sl_10, sk_11, sl_11, sk_12, sl_12, sk_13, sk_14, sl_14, sk_15, sk_40, sk_41, sl_41, sk_330, sl_330, sk_355, sk_356, sl_356, sk_357, sl_357, sk_358, sl_358, sk_359, sl_359, sk_360, sl_360, sk_361, sk_362, sl_362, sk_363, sk_376, sk_377, sl_377, sk_378, sk_379, sl_379, sk_380, sl_380, sk_381, sl_381, sk_382, sl_382, sk_383, sl_383, sk_384, sl_384, sk_385, sl_385, sk_386, sl_386, sk_387, sl_387, sk_388, sl_388, sk_389, sl_389, sk_390, sl_390, sk_391, sl_391, sk_392, sl_392, sk_393, sl_393, sk_394, sl_394, sr_0_0, sr_0_1, sr_0_2, sr_0_3, sr_0_4, sr_0_5, sr_0_6, sr_0_7, sr_0_8, sr_0_9, sr_1_0, sr_1_1, sr_1_2, sr_13_0, sr_15_0, sr_15_2, sr_40_0, sr_355_0, sr_355_1, sr_355_2, sr_355_3, sr_355_4, sr_355_5, sr_361_2, sr_361_5, sr_361_6, sr_363_0, sr_363_1, sr_376_0, sr_376_2, sr_378_0, sr_378_1, sr_378_2, sr_378_4, sr_378_8, sr_378_10, sr_378_11, sr_378_12, sr_378_14, sr_378_20, sr_378_21, sr_378_22, sr_378_23, sr_378_24, sr_378_25, sr_378_26, am_vs, H2, h1, H3, H4, r_in, iL_i, iL_lit, iL_lt, o3, hN]
        repeat (first | rw [if_pos (by omega)] | rw [if_neg (by omega)])
        refine am_loop (P := fun p => (∀ q, q < p → 0 ≤ wo q) → am_ev (am_sem (d + 4)) 10 cX10_sure 46 [.ref 378, .int (iI n), .int (iI k), .int (iI N), .int (iI p), .retAddr 0, .retAddr 0, .retAddr 0] [] am_S0 (dI (setR F 394 sg)) (some (.int (iI (-1000000))), am_S0, dI (setR F 394 sg))) (n := N) ?_ ?_ (k := 0) (by omega) (fun q hq => by omega)
        · intro p hp ih hq
          have b2 := W p (by omega)
          rw [eX10_sure_46]
          simp (disch := first | omega | simp only [am_ci, am_cr, am_ca]) only [eX10_sure_48, eX10_sure_49, eX10_sure_52, eX10_sure_53, eX10_sure_56, eX10_sure_58, eX10_sure_59, eX10_sure_62, eX10_sure_64, eX10_sure_65, eX10_sure_68, am_bi, Int.reduceEq, Int.reduceLT, Int.reduceLE, Int.reduceToNat, ite_self, Decidable.not_not, not_true_eq_false, not_false_eq_true, ↓reduceIte, am_ci, am_cr, am_ca, am_b0, am_b1, am_ts, am_tn, am_then_some, List.cons_append, List.nil_append, ne_eq, iI_lit, iI_add, iI_sub, iI_mul, iI_neg, iI_lt, iI_le, iI_eq, iI_in, iI_clz, dI_ap, dI_wr, setR_s, wE_R, setR_2, setR_n, setR_o, updI_s, updI_n, updI_2, tl_0, tl_1, tl_2, tl_3, tl_4, tl_5, tl_6, tl_7, tl_8, tl_9, tl_10, tl_11, tl_12, tl_13, tl_14, tl_15, tl_16, tn_3, tn_5, tn_13, tn_21, tn_29, tn_33, tn_37, tn_41, tn_45, tn_49, tn_53, tn_57, tn_61, tn_40, tn_p, tn_0, true_and, and_true, sk_0, sk_1, sk_2, sl_2, sk_3, sl_3, sk_4, sl_4, sk_5, sl_5, sk_6, sl_6, sk_7, sl_7, sk_8, sl_8, sk_9, sl_9, sk_10, sl_10, sk_11, sl_11, sk_12, sl_12, sk_13, sk_14, sl_14, sk_15, sk_40, sk_41, sl_41, sk_330, sl_330, sk_355, sk_356, sl_356, sk_357, sl_357, sk_358, sl_358, sk_359, sl_359, sk_360, sl_360, sk_361, sk_362, sl_362, sk_363, sk_376, sk_377, sl_377, sk_378, sk_379, sl_379, sk_380, sl_380, sk_381, sl_381, sk_382, sl_382, sk_383, sl_383, sk_384, sl_384, sk_385, sl_385, sk_386, sl_386, sk_387, sl_387, sk_388, sl_388, sk_389, sl_389, sk_390, sl_390, sk_391, sl_391, sk_392, sl_392, sk_393, sl_393, sk_394, sl_394, sr_0_0, sr_0_1, sr_0_2, sr_0_3, sr_0_4, sr_0_5, sr_0_6, sr_0_7, sr_0_8, sr_0_9, sr_1_0, sr_1_1, sr_1_2, sr_13_0, sr_15_0, sr_15_2, sr_40_0, sr_355_0, sr_355_1, sr_355_2, sr_355_3, sr_355_4, sr_355_5, sr_361_2, sr_361_5, sr_361_6, sr_363_0, sr_363_1, sr_376_0, sr_376_2, sr_378_0, sr_378_1, sr_378_2, sr_378_4, sr_378_8, sr_378_10, sr_378_11, sr_378_12, sr_378_14, sr_378_20, sr_378_21, sr_378_22, sr_378_23, sr_378_24, sr_378_25, sr_378_26, am_vs, hwo]
          rw [if_neg (by omega)]
          split
          · refine ih fun q hq2 => ?_
            by_cases e : q = p
            · rw [e]; assumption
            · exact hq q (by omega)
          · trivial
        · intro hq; exact absurd hq hA
    · rw [if_neg (by omega)]
      refine ⟨E, ⟨fun _ _ => rfl, h9⟩, ?_⟩
      refine mX10_sure rfl rfl ?_
      simp (disch := first | omega | simp only [am_ci, am_cr, am_ca]) only [eX10_sure_0, eX10_sure_1, eX10_sure_2, eX10_sure_5, eX10_sure_8, eX10_sure_9, eX10_sure_10, eX10_sure_11, eX10_sure_14, eX10_sure_17, eX10_sure_20, eX10_sure_22, am_bi, Int.reduceEq, Int.reduceLT, Int.reduceLE, Int.reduceToNat, ite_self, Decidable.not_not, not_true_eq_false, not_false_eq_true, ↓reduceIte, am_ci, am_cr, am_ca, am_b0, am_b1, am_ts, am_tn, am_then_some, List.cons_append, List.nil_append, ne_eq, iI_lit, iI_add, iI_sub, iI_mul, iI_neg, iI_lt, iI_le, iI_eq, iI_in, iI_clz, dI_ap, dI_wr, setR_s, wE_R, setR_2, setR_n, setR_o, updI_s, updI_n, updI_2, tl_0, tl_1, tl_2, tl_3, tl_4, tl_5, tl_6, tl_7, tl_8, tl_9, tl_10, tl_11, tl_12, tl_13, tl_14, tl_15, tl_16, tn_3, tn_5, tn_13, tn_21, tn_29, tn_33, tn_37, tn_41, tn_45, tn_49, tn_53, tn_57, tn_61, tn_40, tn_p, tn_0, true_and, and_true, sk_0, sk_1, sk_2, sl_2, sk_3, sl_3, sk_4, sl_4, sk_5, sl_5, sk_6, sl_6, sk_7, sl_7, sk_8, sl_8, sk_9, sl_9, sk_10, sl_10, sk_11, sl_11, sk_12, sl_12, sk_13, sk_14, sl_14, sk_15, sk_40, sk_41, sl_41, sk_330, sl_330, sk_355, sk_356, sl_356, sk_357, sl_357, sk_358, sl_358, sk_359, sl_359, sk_360, sl_360, sk_361, sk_362, sl_362, sk_363, sk_376, sk_377, sl_377, sk_378, sk_379, sl_379, sk_380, sl_380, sk_381, sl_381, sk_382, sl_382, sk_383, sl_383, sk_384, sl_384, sk_385, sl_385, sk_386, sl_386, sk_387, sl_387, sk_388, sl_388, sk_389, sl_389, sk_390, sl_390, sk_391, sl_391, sk_392, sl_392, sk_393, sl_393, sk_394, sl_394, sr_0_0, sr_0_1, sr_0_2, sr_0_3, sr_0_4, sr_0_5, sr_0_6, sr_0_7, sr_0_8, sr_0_9, sr_1_0, sr_1_1, sr_1_2, sr_13_0, sr_15_0, sr_15_2, sr_40_0, sr_355_0, sr_355_1, sr_355_2, sr_355_3, sr_355_4, sr_355_5, sr_361_2, sr_361_5, sr_361_6, sr_363_0, sr_363_1, sr_376_0, sr_376_2, sr_378_0, sr_378_1, sr_378_2, sr_378_4, sr_378_8, sr_378_10, sr_378_11, sr_378_12, sr_378_14, sr_378_20, sr_378_21, sr_378_22, sr_378_23, sr_378_24, sr_378_25, sr_378_26, am_vs, H2, h1, r_in, iL_i, iL_lit, iL_lt]
      all_goals ((repeat' split) <;> first | rfl | trivial | (exfalso; omega))
  · rw [if_neg (by omega)]
    refine ⟨E, ⟨fun _ _ => rfl, h9⟩, ?_⟩
    refine mX10_sure rfl rfl ?_
    simp (disch := first | omega | simp only [am_ci, am_cr, am_ca]) only [eX10_sure_0, eX10_sure_1, eX10_sure_2, eX10_sure_5, eX10_sure_8, eX10_sure_9, eX10_sure_10, eX10_sure_11, eX10_sure_14, eX10_sure_17, eX10_sure_20, eX10_sure_22, am_bi, Int.reduceEq, Int.reduceLT, Int.reduceLE, Int.reduceToNat, ite_self, Decidable.not_not, not_true_eq_false, not_false_eq_true, ↓reduceIte, am_ci, am_cr, am_ca, am_b0, am_b1, am_ts, am_tn, am_then_some, List.cons_append, List.nil_append, ne_eq, iI_lit, iI_add, iI_sub, iI_mul, iI_neg, iI_lt, iI_le, iI_eq, iI_in, iI_clz, dI_ap, dI_wr, setR_s, wE_R, setR_2, setR_n, setR_o, updI_s, updI_n, updI_2, tl_0, tl_1, tl_2, tl_3, tl_4, tl_5, tl_6, tl_7, tl_8, tl_9, tl_10, tl_11, tl_12, tl_13, tl_14, tl_15, tl_16, tn_3, tn_5, tn_13, tn_21, tn_29, tn_33, tn_37, tn_41, tn_45, tn_49, tn_53, tn_57, tn_61, tn_40, tn_p, tn_0, true_and, and_true, sk_0, sk_1, sk_2, sl_2, sk_3, sl_3, sk_4, sl_4, sk_5, sl_5, sk_6, sl_6, sk_7, sl_7, sk_8, sl_8, sk_9, sl_9, sk_10, sl_10, sk_11, sl_11, sk_12, sl_12, sk_13, sk_14, sl_14, sk_15, sk_40, sk_41, sl_41, sk_330, sl_330, sk_355, sk_356, sl_356, sk_357, sl_357, sk_358, sl_358, sk_359, sl_359, sk_360, sl_360, sk_361, sk_362, sl_362, sk_363, sk_376, sk_377, sl_377, sk_378, sk_379, sl_379, sk_380, sl_380, sk_381, sl_381, sk_382, sl_382, sk_383, sl_383, sk_384, sl_384, sk_385, sl_385, sk_386, sl_386, sk_387, sl_387, sk_388, sl_388, sk_389, sl_389, sk_390, sl_390, sk_391, sl_391, sk_392, sl_392, sk_393, sl_393, sk_394, sl_394, sr_0_0, sr_0_1, sr_0_2, sr_0_3, sr_0_4, sr_0_5, sr_0_6, sr_0_7, sr_0_8, sr_0_9, sr_1_0, sr_1_1, sr_1_2, sr_13_0, sr_15_0, sr_15_2, sr_40_0, sr_355_0, sr_355_1, sr_355_2, sr_355_3, sr_355_4, sr_355_5, sr_361_2, sr_361_5, sr_361_6, sr_363_0, sr_363_1, sr_376_0, sr_376_2, sr_378_0, sr_378_1, sr_378_2, sr_378_4, sr_378_8, sr_378_10, sr_378_11, sr_378_12, sr_378_14, sr_378_20, sr_378_21, sr_378_22, sr_378_23, sr_378_24, sr_378_25, sr_378_26, am_vs, H2, h1]
    all_goals ((repeat' split) <;> first | rfl | trivial | (exfalso; omega))
