/-! ===== the class: foretell ===== -/
theorem an_16 : ∀ s, s < 16 → ∀ m, m < 16 → (nI s &&& (nI m ^^^ Int32.ofInt (-1))) = nI (s &&& (15 ^^^ m)) := by decide +kernel
theorem iI_an {s m : Nat} (hs : s < 16) (hm : m < 16) : (iI (s : Int) &&& (iI (m : Int) ^^^ iI (-1))) = iI ((s &&& (15 ^^^ m) : Nat) : Int) := by
  rw [← iI_nI, ← iI_nI, ← iI_nI]
  exact an_16 s hs m hm
theorem an_bit : ∀ s, s < 16 → ∀ m, m < 16 → ∀ k, k < 4 → ((s &&& (15 ^^^ m)) / 2 ^ k % 2 = 1 ↔ s / 2 ^ k % 2 = 1 ∧ m / 2 ^ k % 2 = 0) := by decide +kernel
theorem se_bit {t : Nat → Int} {s : Nat} : ∀ k, k ≤ 4 → s < 4 → (seT t k / 2 ^ s % 2 = 1 ↔ s < k ∧ 0 < t (37 + s))
  | 0, _, _ => by simp [seT]
  | k + 1, hk, hs => by
    have ih := se_bit (t := t) (s := s) k (by omega) hs
    have hp : ∀ k, k < 4 → ∀ s, s < 4 → (2 ^ k / 2 ^ s % 2 = 1 ↔ s = k) := by decide
    rw [seT_s, or_bit, ih]
    by_cases c : t (37 + k) ≤ 0
    · rw [if_pos c]
      constructor
      · rintro (h | h)
        · exact ⟨by omega, h.2⟩
        · simp at h
      · intro h
        refine Or.inl ⟨?_, h.2⟩
        by_cases e : s = k
        · subst e; omega
        · omega
    · rw [if_neg c, hp k (by omega) s hs]
      constructor
      · rintro (h | h)
        · exact ⟨by omega, h.2⟩
        · subst h; exact ⟨by omega, by omega⟩
      · intro h
        by_cases e : s = k
        · exact Or.inr e
        · exact Or.inl ⟨by omega, h.2⟩
def foV (x : Int) : Int := if 150 < x then 1000000 else x
/-- from when ports know a news, ships of m silent -/
theorem c_foretell {d m n : Nat} {E : Nat → Nat → Int} {t : Nat → Int} (hF : fR E t) (hm : m < 16) (hn : n < 4) : ∃ g, (∀ p : Nat, (p : Int) < t 0 → g p = foV (foD t m n p)) ∧ am_sem (d + 3) 16 [.ref 355, .int (iI n), .int (iI m)] am_S0 (dI E) = some (none, am_S0, dI (setR E 356 g)) := by
  have hF0 := hF
  obtain ⟨⟨hR, hD⟩, hw, hqT⟩ := hF
  have hb := hw.1.1
  have a0 := hb.2.1
  have a2 := hb.2.2.2.1
  have a3 := hb.2.2.2.2.1
  have wy := wyN_q hw hqT
  obtain ⟨N, hN⟩ := Int.eq_ofNat_of_zero_le a0.1
  obtain ⟨K, hK⟩ := Int.eq_ofNat_of_zero_le a2.1
  have e0 : E 28 0 = (N : Int) := by rw [hR.1.1, hN]
  have e2 : E 28 2 = (K : Int) := by rw [hR.1.2.2.1, hK]
  have hse := seT_lt t K
  have h16 : (2 : Nat) ^ K ≤ 16 := Nat.pow_le_pow_right (show 0 < 2 by omega) (show K ≤ 4 by omega)
  -- known by themselves
  obtain ⟨g0, hg0, he0⟩ := am_fwd (X := Nat → Int) (I := fun k g => ∀ p, p < k → g p = fsT t m n 0 p) (ev := fun k g R => ∀ v4 v5, am_ev (am_sem (d + 2)) 2 cX2_foretell 2 [.ref 355, .int (iI n), .int (iI m), .int (iI k), v4, v5] [] am_S0 (dI (setR E 356 g)) R) (n := N) (by
    intro k g hk hg
    have kp := hR.kn (show k < 6 by omega) hn
    have c := hb.1 (61 + 4 * k + n)
    have H1 := c_knownSince (d := d + 1) (a := 28) (p := k) (n := n) (E := setR E 356 g) am_lg28 (by omega) hn
    rw [setR_n (by omega)] at H1
    refine ⟨updI g k (fsT t m n 0 k), fun p hp => ?_, fun R ih v4 v5 => ?_⟩
    · by_cases e : p = k
      · subst e; rw [updI_s]
      · rw [updI_n e]; exact hg p (by omega)
    · rw [fsT_0] at ih
      rw [eX2_foretell_2]
      by_cases c1 : t (61 + 4 * k + n) < 0
      · rw [if_pos c1] at kp
        rw [if_pos c1] at ih
        simp (disch := first | omega | simp only [am_ci, am_cr, am_ca]) only [eX2_foretell_3, eX2_foretell_4, eX2_foretell_7, eX2_foretell_10, eX2_foretell_13, eX2_foretell_14, eX2_foretell_17, eX2_foretell_18, eX2_foretell_19, eX2_foretell_22, eX2_foretell_24, eX2_foretell_25, eX2_foretell_28, eX2_foretell_29, eX2_foretell_31, eX2_foretell_33, eX2_foretell_36, eX2_foretell_38, eX2_foretell_41, eX2_foretell_43, eX2_foretell_44, eX2_foretell_47, am_bi, Int.reduceEq, Int.reduceLT, Int.reduceLE, Int.reduceToNat, ite_self, Decidable.not_not, not_true_eq_false, not_false_eq_true, ↓reduceIte, am_ci, am_cr, am_ca, am_b0, am_b1, am_ts, am_tn, am_then_some, List.cons_append, List.nil_append, ne_eq, iI_lit, iI_add, iI_sub, iI_mul, iI_neg, iI_lt, iI_le, iI_eq, iI_in, iI_clz, dI_ap, dI_wr, setR_s, wE_R, setR_2, setR_n, setR_o, updI_s, updI_n, updI_2, tl_0, tl_1, tl_2, tl_3, tl_4, tl_5, tl_6, tl_7, tl_8, tl_9, tl_10, tl_11, tl_12, tl_13, tl_14, tl_15, tl_16, tn_3, tn_5, tn_13, tn_21, tn_29, tn_33, tn_37, tn_41, tn_45, tn_49, tn_53, tn_57, tn_61, tn_40, tn_p, tn_0, true_and, and_true, sk_0, sk_1, sk_2, sl_2, sk_3, sl_3, sk_4, sl_4, sk_5, sl_5, sk_6, sl_6, sk_7, sl_7, sk_8, sl_8, sk_9, sl_9, sk_10, sl_10, sk_11, sl_11, sk_12, sl_12, sk_13, sk_14, sl_14, sk_15, sk_40, sk_41, sl_41, sk_330, sl_330, sk_355, sk_356, sl_356, sk_357, sl_357, sk_358, sl_358, sk_359, sl_359, sk_360, sl_360, sk_361, sk_362, sl_362, sk_363, sk_376, sk_377, sl_377, sk_378, sk_379, sl_379, sk_380, sl_380, sk_381, sl_381, sk_382, sl_382, sk_383, sl_383, sk_384, sl_384, sk_385, sl_385, sk_386, sl_386, sk_387, sl_387, sk_388, sl_388, sk_389, sl_389, sk_390, sl_390, sk_391, sl_391, sk_392, sl_392, sk_393, sl_393, sk_394, sl_394, sr_0_0, sr_0_1, sr_0_2, sr_0_3, sr_0_4, sr_0_5, sr_0_6, sr_0_7, sr_0_8, sr_0_9, sr_1_0, sr_1_1, sr_1_2, sr_13_0, sr_15_0, sr_15_2, sr_40_0, sr_355_0, sr_355_1, sr_355_2, sr_355_3, sr_355_4, sr_355_5, sr_361_2, sr_361_5, sr_361_6, sr_363_0, sr_363_1, sr_376_0, sr_376_2, sr_378_0, sr_378_1, sr_378_2, sr_378_4, sr_378_8, sr_378_10, sr_378_11, sr_378_12, sr_378_14, sr_378_20, sr_378_21, sr_378_22, sr_378_23, sr_378_24, sr_378_25, sr_378_26, am_vs, am_lg28.k, e0, H1, kp]
        repeat (first | rw [if_pos (by omega)] | rw [if_neg (by omega)])
        exact ih _ _
      · rw [if_neg c1] at kp
        rw [if_neg c1] at ih
        simp (disch := first | omega | simp only [am_ci, am_cr, am_ca]) only [eX2_foretell_3, eX2_foretell_4, eX2_foretell_7, eX2_foretell_10, eX2_foretell_13, eX2_foretell_14, eX2_foretell_17, eX2_foretell_18, eX2_foretell_19, eX2_foretell_22, eX2_foretell_24, eX2_foretell_25, eX2_foretell_28, eX2_foretell_29, eX2_foretell_31, eX2_foretell_33, eX2_foretell_36, eX2_foretell_38, eX2_foretell_41, eX2_foretell_43, eX2_foretell_44, eX2_foretell_47, am_bi, Int.reduceEq, Int.reduceLT, Int.reduceLE, Int.reduceToNat, ite_self, Decidable.not_not, not_true_eq_false, not_false_eq_true, ↓reduceIte, am_ci, am_cr, am_ca, am_b0, am_b1, am_ts, am_tn, am_then_some, List.cons_append, List.nil_append, ne_eq, iI_lit, iI_add, iI_sub, iI_mul, iI_neg, iI_lt, iI_le, iI_eq, iI_in, iI_clz, dI_ap, dI_wr, setR_s, wE_R, setR_2, setR_n, setR_o, updI_s, updI_n, updI_2, tl_0, tl_1, tl_2, tl_3, tl_4, tl_5, tl_6, tl_7, tl_8, tl_9, tl_10, tl_11, tl_12, tl_13, tl_14, tl_15, tl_16, tn_3, tn_5, tn_13, tn_21, tn_29, tn_33, tn_37, tn_41, tn_45, tn_49, tn_53, tn_57, tn_61, tn_40, tn_p, tn_0, true_and, and_true, sk_0, sk_1, sk_2, sl_2, sk_3, sl_3, sk_4, sl_4, sk_5, sl_5, sk_6, sl_6, sk_7, sl_7, sk_8, sl_8, sk_9, sl_9, sk_10, sl_10, sk_11, sl_11, sk_12, sl_12, sk_13, sk_14, sl_14, sk_15, sk_40, sk_41, sl_41, sk_330, sl_330, sk_355, sk_356, sl_356, sk_357, sl_357, sk_358, sl_358, sk_359, sl_359, sk_360, sl_360, sk_361, sk_362, sl_362, sk_363, sk_376, sk_377, sl_377, sk_378, sk_379, sl_379, sk_380, sl_380, sk_381, sl_381, sk_382, sl_382, sk_383, sl_383, sk_384, sl_384, sk_385, sl_385, sk_386, sl_386, sk_387, sl_387, sk_388, sl_388, sk_389, sl_389, sk_390, sl_390, sk_391, sl_391, sk_392, sl_392, sk_393, sl_393, sk_394, sl_394, sr_0_0, sr_0_1, sr_0_2, sr_0_3, sr_0_4, sr_0_5, sr_0_6, sr_0_7, sr_0_8, sr_0_9, sr_1_0, sr_1_1, sr_1_2, sr_13_0, sr_15_0, sr_15_2, sr_40_0, sr_355_0, sr_355_1, sr_355_2, sr_355_3, sr_355_4, sr_355_5, sr_361_2, sr_361_5, sr_361_6, sr_363_0, sr_363_1, sr_376_0, sr_376_2, sr_378_0, sr_378_1, sr_378_2, sr_378_4, sr_378_8, sr_378_10, sr_378_11, sr_378_12, sr_378_14, sr_378_20, sr_378_21, sr_378_22, sr_378_23, sr_378_24, sr_378_25, sr_378_26, am_vs, am_lg28.k, e0, H1, kp]
        repeat (first | rw [if_pos (by omega)] | rw [if_neg (by omega)])
        exact ih _ _) (k := 0) (x := E 356) (by omega) (fun p hp => by omega)
  -- by ships
  obtain ⟨g1, hg1, he1⟩ := am_fwd (X := Nat → Int) (I := fun k g => ∀ p, p < N → g p = fsT t m n k p) (ev := fun k g R => ∀ v5, am_ev (am_sem (d + 2)) 2 cX2_foretell 65 [.ref 355, .int (iI n), .int (iI m), .int (iI ((seT t K &&& (15 ^^^ m) : Nat) : Int)), .int (iI k), v5] [] am_S0 (dI (setR E 356 g)) R) (n := K) (by
    intro k g hk hg
    have k4 : k < 4 := by omega
    obtain ⟨-, s5, -, s8⟩ := hR.2.2.1 k k4 (by omega)
    obtain ⟨bk, bp, bd, bt⟩ := hb.2.2.2.2.2.2.2.1 k k4
    have sh := hqT.2.2.1 k k4 (by omega)
    obtain ⟨b, hb2⟩ := Int.eq_ofNat_of_zero_le bp.1
    rw [hb2] at s5
    have b0 := hb.1 (37 + k)
    have dk := hD k k4 (by omega)
    have H1 := c_isTold (d := d + 1) (a := 28) (s := k) (n := n) (E := setR E 356 g) am_lg28 k4 (by omega) (by rw [setR_n (by omega), s8]; exact bt)
    rw [setR_n (by omega), s8] at H1
    have hbit := an_bit (seT t K) (by omega) m hm k k4
    rw [se_bit K (by omega) k4] at hbit
    have bx : (seT t K &&& (15 ^^^ m)) / 2 ^ k % 2 < 2 := Nat.mod_lt _ (by omega)
    have sx : (seT t K &&& (15 ^^^ m)) < 16 := Nat.lt_of_le_of_lt Nat.and_le_left (by omega)
    rw [fsT_s, hb2, show ((b : Int)).toNat = b from rfl]
    have gb := hg b (by omega)
    have gr := (fsT_gB (m := m) (n := n) hb k (by omega)) b (by omega)
    have ib : (iI (((seT t K &&& (15 ^^^ m) : Nat)) : Int) >>> (iI (k : Int) &&& iI 31)) &&& iI 1 = iI ((((seT t K &&& (15 ^^^ m)) / 2 ^ k % 2 : Nat)) : Int) := by
      have := iI_bit (x := ((seT t K &&& (15 ^^^ m) : Nat) : Int)) (n := k) (by omega) (by omega) (by omega)
      rw [show (((seT t K &&& (15 ^^^ m) : Nat)) : Int).toNat = seT t K &&& (15 ^^^ m) from rfl] at this
      exact this
    by_cases c : tels t m n k
    · rw [if_pos c]
      have c1 := hbit.mpr ⟨⟨hk, c.1⟩, c.2.1⟩
      have d6 : E (28 + 6) k = t (37 + k) := by have := c.1; omega
      have c3 := c.2.2
      unfold bit at c3
      refine ⟨updI g b (mnI (t (37 + k)) (fsT t m n k b)), fun p hp => ?_, fun R ih v5 => ?_⟩
      · by_cases e : p = b
        · subst e; rw [updI_s, updI_s]
        · rw [updI_n e, updI_n e]; exact hg p hp
      · have eq : (if t (37 + k) < fsT t m n k b then t (37 + k) else fsT t m n k b) = mnI (t (37 + k)) (fsT t m n k b) := rfl
        rw [eX2_foretell_65]
        simp (disch := first | omega | simp only [am_ci, am_cr, am_ca]) only [eX2_foretell_67, eX2_foretell_68, eX2_foretell_71, eX2_foretell_74, eX2_foretell_77, eX2_foretell_78, eX2_foretell_80, eX2_foretell_81, eX2_foretell_82, eX2_foretell_83, eX2_foretell_84, eX2_foretell_87, eX2_foretell_88, eX2_foretell_91, eX2_foretell_93, eX2_foretell_94, eX2_foretell_97, eX2_foretell_100, eX2_foretell_101, eX2_foretell_104, eX2_foretell_107, eX2_foretell_109, eX2_foretell_110, eX2_foretell_112, eX2_foretell_113, eX2_foretell_116, eX2_foretell_118, eX2_foretell_119, eX2_foretell_122, eX2_foretell_124, eX2_foretell_125, eX2_foretell_126, eX2_foretell_129, eX2_foretell_132, eX2_foretell_134, eX2_foretell_135, eX2_foretell_138, eX2_foretell_139, eX2_foretell_142, am_bi, Int.reduceEq, Int.reduceLT, Int.reduceLE, Int.reduceToNat, ite_self, Decidable.not_not, not_true_eq_false, not_false_eq_true, ↓reduceIte, am_ci, am_cr, am_ca, am_b0, am_b1, am_ts, am_tn, am_then_some, List.cons_append, List.nil_append, ne_eq, iI_lit, iI_add, iI_sub, iI_mul, iI_neg, iI_lt, iI_le, iI_eq, iI_in, iI_clz, dI_ap, dI_wr, setR_s, wE_R, setR_2, setR_n, setR_o, updI_s, updI_n, updI_2, tl_0, tl_1, tl_2, tl_3, tl_4, tl_5, tl_6, tl_7, tl_8, tl_9, tl_10, tl_11, tl_12, tl_13, tl_14, tl_15, tl_16, tn_3, tn_5, tn_13, tn_21, tn_29, tn_33, tn_37, tn_41, tn_45, tn_49, tn_53, tn_57, tn_61, tn_40, tn_p, tn_0, true_and, and_true, sk_0, sk_1, sk_2, sl_2, sk_3, sl_3, sk_4, sl_4, sk_5, sl_5, sk_6, sl_6, sk_7, sl_7, sk_8, sl_8, sk_9, sl_9, sk_10, sl_10, sk_11, sl_11, sk_12, sl_12, sk_13, sk_14, sl_14, sk_15, sk_40, sk_41, sl_41, sk_330, sl_330, sk_355, sk_356, sl_356, sk_357, sl_357, sk_358, sl_358, sk_359, sl_359, sk_360, sl_360, sk_361, sk_362, sl_362, sk_363, sk_376, sk_377, sl_377, sk_378, sk_379, sl_379, sk_380, sl_380, sk_381, sl_381, sk_382, sl_382, sk_383, sl_383, sk_384, sl_384, sk_385, sl_385, sk_386, sl_386, sk_387, sl_387, sk_388, sl_388, sk_389, sl_389, sk_390, sl_390, sk_391, sl_391, sk_392, sl_392, sk_393, sl_393, sk_394, sl_394, sr_0_0, sr_0_1, sr_0_2, sr_0_3, sr_0_4, sr_0_5, sr_0_6, sr_0_7, sr_0_8, sr_0_9, sr_1_0, sr_1_1, sr_1_2, sr_13_0, sr_15_0, sr_15_2, sr_40_0, sr_355_0, sr_355_1, sr_355_2, sr_355_3, sr_355_4, sr_355_5, sr_361_2, sr_361_5, sr_361_6, sr_363_0, sr_363_1, sr_376_0, sr_376_2, sr_378_0, sr_378_1, sr_378_2, sr_378_4, sr_378_8, sr_378_10, sr_378_11, sr_378_12, sr_378_14, sr_378_20, sr_378_21, sr_378_22, sr_378_23, sr_378_24, sr_378_25, sr_378_26, am_vs, am_lg28.k, am_lg28.k5, am_lg28.r5, am_lg28.l5, am_lg28.k6, am_lg28.r6, am_lg28.l6, e2, ib, c1, H1, c3, s5, d6, gb, iI_ite, eq]
        repeat (first | rw [if_pos (by omega)] | rw [if_neg (by omega)])
        exact ih _
    · rw [if_neg c]
      refine ⟨g, hg, fun R ih v5 => ?_⟩
      rw [eX2_foretell_65]
      by_cases c1 : (seT t K &&& (15 ^^^ m)) / 2 ^ k % 2 = 1
      · have c2 := hbit.mp c1
        have c3 : ¬ (t (45 + k)).toNat / 2 ^ n % 2 = 1 := fun h => c ⟨c2.1.2, c2.2, h⟩
        simp (disch := first | omega | simp only [am_ci, am_cr, am_ca]) only [eX2_foretell_67, eX2_foretell_68, eX2_foretell_71, eX2_foretell_74, eX2_foretell_77, eX2_foretell_78, eX2_foretell_80, eX2_foretell_81, eX2_foretell_82, eX2_foretell_83, eX2_foretell_84, eX2_foretell_87, eX2_foretell_88, eX2_foretell_91, eX2_foretell_93, eX2_foretell_94, eX2_foretell_97, eX2_foretell_100, eX2_foretell_101, eX2_foretell_104, eX2_foretell_107, eX2_foretell_109, eX2_foretell_110, eX2_foretell_112, eX2_foretell_113, eX2_foretell_116, eX2_foretell_118, eX2_foretell_119, eX2_foretell_122, eX2_foretell_124, eX2_foretell_125, eX2_foretell_126, eX2_foretell_129, eX2_foretell_132, eX2_foretell_134, eX2_foretell_135, eX2_foretell_138, eX2_foretell_139, eX2_foretell_142, am_bi, Int.reduceEq, Int.reduceLT, Int.reduceLE, Int.reduceToNat, ite_self, Decidable.not_not, not_true_eq_false, not_false_eq_true, ↓reduceIte, am_ci, am_cr, am_ca, am_b0, am_b1, am_ts, am_tn, am_then_some, List.cons_append, List.nil_append, ne_eq, iI_lit, iI_add, iI_sub, iI_mul, iI_neg, iI_lt, iI_le, iI_eq, iI_in, iI_clz, dI_ap, dI_wr, setR_s, wE_R, setR_2, setR_n, setR_o, updI_s, updI_n, updI_2, tl_0, tl_1, tl_2, tl_3, tl_4, tl_5, tl_6, tl_7, tl_8, tl_9, tl_10, tl_11, tl_12, tl_13, tl_14, tl_15, tl_16, tn_3, tn_5, tn_13, tn_21, tn_29, tn_33, tn_37, tn_41, tn_45, tn_49, tn_53, tn_57, tn_61, tn_40, tn_p, tn_0, true_and, and_true, sk_0, sk_1, sk_2, sl_2, sk_3, sl_3, sk_4, sl_4, sk_5, sl_5, sk_6, sl_6, sk_7, sl_7, sk_8, sl_8, sk_9, sl_9, sk_10, sl_10, sk_11, sl_11, sk_12, sl_12, sk_13, sk_14, sl_14, sk_15, sk_40, sk_41, sl_41, sk_330, sl_330, sk_355, sk_356, sl_356, sk_357, sl_357, sk_358, sl_358, sk_359, sl_359, sk_360, sl_360, sk_361, sk_362, sl_362, sk_363, sk_376, sk_377, sl_377, sk_378, sk_379, sl_379, sk_380, sl_380, sk_381, sl_381, sk_382, sl_382, sk_383, sl_383, sk_384, sl_384, sk_385, sl_385, sk_386, sl_386, sk_387, sl_387, sk_388, sl_388, sk_389, sl_389, sk_390, sl_390, sk_391, sl_391, sk_392, sl_392, sk_393, sl_393, sk_394, sl_394, sr_0_0, sr_0_1, sr_0_2, sr_0_3, sr_0_4, sr_0_5, sr_0_6, sr_0_7, sr_0_8, sr_0_9, sr_1_0, sr_1_1, sr_1_2, sr_13_0, sr_15_0, sr_15_2, sr_40_0, sr_355_0, sr_355_1, sr_355_2, sr_355_3, sr_355_4, sr_355_5, sr_361_2, sr_361_5, sr_361_6, sr_363_0, sr_363_1, sr_376_0, sr_376_2, sr_378_0, sr_378_1, sr_378_2, sr_378_4, sr_378_8, sr_378_10, sr_378_11, sr_378_12, sr_378_14, sr_378_20, sr_378_21, sr_378_22, sr_378_23, sr_378_24, sr_378_25, sr_378_26, am_vs, am_lg28.k, e2, ib, c1, H1, c3]
        repeat (first | rw [if_pos (by omega)] | rw [if_neg (by omega)])
        exact ih _
      · simp (disch := first | omega | simp only [am_ci, am_cr, am_ca]) only [eX2_foretell_67, eX2_foretell_68, eX2_foretell_71, eX2_foretell_74, eX2_foretell_77, eX2_foretell_78, eX2_foretell_80, eX2_foretell_81, eX2_foretell_82, eX2_foretell_83, eX2_foretell_84, eX2_foretell_87, eX2_foretell_88, eX2_foretell_91, eX2_foretell_93, eX2_foretell_94, eX2_foretell_97, eX2_foretell_100, eX2_foretell_101, eX2_foretell_104, eX2_foretell_107, eX2_foretell_109, eX2_foretell_110, eX2_foretell_112, eX2_foretell_113, eX2_foretell_116, eX2_foretell_118, eX2_foretell_119, eX2_foretell_122, eX2_foretell_124, eX2_foretell_125, eX2_foretell_126, eX2_foretell_129, eX2_foretell_132, eX2_foretell_134, eX2_foretell_135, eX2_foretell_138, eX2_foretell_139, eX2_foretell_142, am_bi, Int.reduceEq, Int.reduceLT, Int.reduceLE, Int.reduceToNat, ite_self, Decidable.not_not, not_true_eq_false, not_false_eq_true, ↓reduceIte, am_ci, am_cr, am_ca, am_b0, am_b1, am_ts, am_tn, am_then_some, List.cons_append, List.nil_append, ne_eq, iI_lit, iI_add, iI_sub, iI_mul, iI_neg, iI_lt, iI_le, iI_eq, iI_in, iI_clz, dI_ap, dI_wr, setR_s, wE_R, setR_2, setR_n, setR_o, updI_s, updI_n, updI_2, tl_0, tl_1, tl_2, tl_3, tl_4, tl_5, tl_6, tl_7, tl_8, tl_9, tl_10, tl_11, tl_12, tl_13, tl_14, tl_15, tl_16, tn_3, tn_5, tn_13, tn_21, tn_29, tn_33, tn_37, tn_41, tn_45, tn_49, tn_53, tn_57, tn_61, tn_40, tn_p, tn_0, true_and, and_true, sk_0, sk_1, sk_2, sl_2, sk_3, sl_3, sk_4, sl_4, sk_5, sl_5, sk_6, sl_6, sk_7, sl_7, sk_8, sl_8, sk_9, sl_9, sk_10, sl_10, sk_11, sl_11, sk_12, sl_12, sk_13, sk_14, sl_14, sk_15, sk_40, sk_41, sl_41, sk_330, sl_330, sk_355, sk_356, sl_356, sk_357, sl_357, sk_358, sl_358, sk_359, sl_359, sk_360, sl_360, sk_361, sk_362, sl_362, sk_363, sk_376, sk_377, sl_377, sk_378, sk_379, sl_379, sk_380, sl_380, sk_381, sl_381, sk_382, sl_382, sk_383, sl_383, sk_384, sl_384, sk_385, sl_385, sk_386, sl_386, sk_387, sl_387, sk_388, sl_388, sk_389, sl_389, sk_390, sl_390, sk_391, sl_391, sk_392, sl_392, sk_393, sl_393, sk_394, sl_394, sr_0_0, sr_0_1, sr_0_2, sr_0_3, sr_0_4, sr_0_5, sr_0_6, sr_0_7, sr_0_8, sr_0_9, sr_1_0, sr_1_1, sr_1_2, sr_13_0, sr_15_0, sr_15_2, sr_40_0, sr_355_0, sr_355_1, sr_355_2, sr_355_3, sr_355_4, sr_355_5, sr_361_2, sr_361_5, sr_361_6, sr_363_0, sr_363_1, sr_376_0, sr_376_2, sr_378_0, sr_378_1, sr_378_2, sr_378_4, sr_378_8, sr_378_10, sr_378_11, sr_378_12, sr_378_14, sr_378_20, sr_378_21, sr_378_22, sr_378_23, sr_378_24, sr_378_25, sr_378_26, am_vs, am_lg28.k, e2, ib]
        repeat (first | rw [if_pos (by omega)] | rw [if_neg (by omega)])
        exact ih _) (k := 0) (x := g0) (by omega) (fun p hp => hg0 p hp)
  -- along the ways
  have hg1B : gBN (t 0) (setR E 356 g1 356) := fun p hp => by
    rw [setR_s, hg1 p (by omega)]
    exact (fsT_gB (m := m) (n := n) hb K (by omega)) p (by omega)
  have HS : am_sem (d + 2) 17 [.ref 355, .ref 356, .int (iI 6)] am_S0 (dI (setR E 356 g1)) = some (none, am_S0, dI (setR (setR E 356 g1) 356 (piT t (sgD t) (setR E 356 g1 356) 5))) := c_spread (d := d) (q := 356) (m := 6) (dl := sgD t) (by omega) (fR_s hF0 (by omega)) (by omega) (fun w _ _ => rfl) hg1B
  rw [setR_s, setR_2] at HS
  have hpi : ∀ p, p < N → piT t (sgD t) g1 5 p = foD t m n p := fun p hp => by
    unfold foD
    rw [hK, show ((K : Int)).toNat = K from rfl]
    exact piT_cg hb.2.2.1 (fun p hp => hg1 p (by omega)) wy (fun _ _ _ => rfl) 5 p (by omega)
  have hDB := (foD_p hw hqT m hn).1
  -- too late
  obtain ⟨g2, hg2, he2⟩ := am_fwd (X := Nat → Int) (I := fun k g => (∀ p, p < k → g p = foV (foD t m n p)) ∧ ∀ p, k ≤ p → p < N → g p = foD t m n p) (ev := fun k g R => ∀ v5, am_ev (am_sem (d + 2)) 2 cX2_foretell 158 [.ref 355, .int (iI n), .int (iI m), .int (iI ((seT t K &&& (15 ^^^ m) : Nat) : Int)), .int (iI k), v5] [] am_S0 (dI (setR E 356 g)) R) (n := N) (by
    rintro k g hk ⟨hg, hg'⟩
    have gk := hg' k (by omega) hk
    have gb := hDB k (by omega)
    by_cases c : 150 < foD t m n k
    · refine ⟨updI g k 1000000, ⟨fun p hp => ?_, fun p hp hp2 => ?_⟩, fun R ih v5 => ?_⟩
      · by_cases e : p = k
        · subst e; rw [updI_s]; unfold foV; rw [if_pos c]
        · rw [updI_n e]; exact hg p (by omega)
      · rw [updI_n (by omega)]; exact hg' p (by omega) hp2
      · rw [eX2_foretell_158]
        simp (disch := first | omega | simp only [am_ci, am_cr, am_ca]) only [eX2_foretell_160, eX2_foretell_161, eX2_foretell_164, eX2_foretell_167, eX2_foretell_170, eX2_foretell_171, eX2_foretell_174, eX2_foretell_176, eX2_foretell_177, eX2_foretell_180, eX2_foretell_183, eX2_foretell_184, eX2_foretell_187, eX2_foretell_189, eX2_foretell_191, eX2_foretell_192, eX2_foretell_195, am_bi, Int.reduceEq, Int.reduceLT, Int.reduceLE, Int.reduceToNat, ite_self, Decidable.not_not, not_true_eq_false, not_false_eq_true, ↓reduceIte, am_ci, am_cr, am_ca, am_b0, am_b1, am_ts, am_tn, am_then_some, List.cons_append, List.nil_append, ne_eq, iI_lit, iI_add, iI_sub, iI_mul, iI_neg, iI_lt, iI_le, iI_eq, iI_in, iI_clz, dI_ap, dI_wr, setR_s, wE_R, setR_2, setR_n, setR_o, updI_s, updI_n, updI_2, tl_0, tl_1, tl_2, tl_3, tl_4, tl_5, tl_6, tl_7, tl_8, tl_9, tl_10, tl_11, tl_12, tl_13, tl_14, tl_15, tl_16, tn_3, tn_5, tn_13, tn_21, tn_29, tn_33, tn_37, tn_41, tn_45, tn_49, tn_53, tn_57, tn_61, tn_40, tn_p, tn_0, true_and, and_true, sk_0, sk_1, sk_2, sl_2, sk_3, sl_3, sk_4, sl_4, sk_5, sl_5, sk_6, sl_6, sk_7, sl_7, sk_8, sl_8, sk_9, sl_9, sk_10, sl_10, sk_11, sl_11, sk_12, sl_12, sk_13, sk_14, sl_14, sk_15, sk_40, sk_41, sl_41, sk_330, sl_330, sk_355, sk_356, sl_356, sk_357, sl_357, sk_358, sl_358, sk_359, sl_359, sk_360, sl_360, sk_361, sk_362, sl_362, sk_363, sk_376, sk_377, sl_377, sk_378, sk_379, sl_379, sk_380, sl_380, sk_381, sl_381, sk_382, sl_382, sk_383, sl_383, sk_384, sl_384, sk_385, sl_385, sk_386, sl_386, sk_387, sl_387, sk_388, sl_388, sk_389, sl_389, sk_390, sl_390, sk_391, sl_391, sk_392, sl_392, sk_393, sl_393, sk_394, sl_394, sr_0_0, sr_0_1, sr_0_2, sr_0_3, sr_0_4, sr_0_5, sr_0_6, sr_0_7, sr_0_8, sr_0_9, sr_1_0, sr_1_1, sr_1_2, sr_13_0, sr_15_0, sr_15_2, sr_40_0, sr_355_0, sr_355_1, sr_355_2, sr_355_3, sr_355_4, sr_355_5, sr_361_2, sr_361_5, sr_361_6, sr_363_0, sr_363_1, sr_376_0, sr_376_2, sr_378_0, sr_378_1, sr_378_2, sr_378_4, sr_378_8, sr_378_10, sr_378_11, sr_378_12, sr_378_14, sr_378_20, sr_378_21, sr_378_22, sr_378_23, sr_378_24, sr_378_25, sr_378_26, am_vs, am_lg28.k, e0, gk]
        repeat (first | rw [if_pos (by omega)] | rw [if_neg (by omega)])
        exact ih _
    · refine ⟨g, ⟨fun p hp => ?_, fun p hp hp2 => hg' p (by omega) hp2⟩, fun R ih v5 => ?_⟩
      · by_cases e : p = k
        · subst e; rw [gk]; unfold foV; rw [if_neg c]
        · exact hg p (by omega)
      · rw [eX2_foretell_158]
        simp (disch := first | omega | simp only [am_ci, am_cr, am_ca]) only [eX2_foretell_160, eX2_foretell_161, eX2_foretell_164, eX2_foretell_167, eX2_foretell_170, eX2_foretell_171, eX2_foretell_174, eX2_foretell_176, eX2_foretell_177, eX2_foretell_180, eX2_foretell_183, eX2_foretell_184, eX2_foretell_187, eX2_foretell_189, eX2_foretell_191, eX2_foretell_192, eX2_foretell_195, am_bi, Int.reduceEq, Int.reduceLT, Int.reduceLE, Int.reduceToNat, ite_self, Decidable.not_not, not_true_eq_false, not_false_eq_true, ↓reduceIte, am_ci, am_cr, am_ca, am_b0, am_b1, am_ts, am_tn, am_then_some, List.cons_append, List.nil_append, ne_eq, iI_lit, iI_add, iI_sub, iI_mul, iI_neg, iI_lt, iI_le, iI_eq, iI_in, iI_clz, dI_ap, dI_wr, setR_s, wE_R, setR_2, setR_n, setR_o, updI_s, updI_n, updI_2, tl_0, tl_1, tl_2, tl_3, tl_4, tl_5, tl_6, tl_7, tl_8, tl_9, tl_10, tl_11, tl_12, tl_13, tl_14, tl_15, tl_16, tn_3, tn_5, tn_13, tn_21, tn_29, tn_33, tn_37, tn_41, tn_45, tn_49, tn_53, tn_57, tn_61, tn_40, tn_p, tn_0, true_and, and_true, sk_0, sk_1, sk_2, sl_2, sk_3, sl_3, sk_4, sl_4, sk_5, sl_5, sk_6, sl_6, sk_7, sl_7, sk_8, sl_8, sk_9, sl_9, sk_10, sl_10, sk_11, sl_11, sk_12, sl_12, sk_13, sk_14, sl_14, sk_15, sk_40, sk_41, sl_41, sk_330, sl_330, sk_355, sk_356, sl_356, sk_357, sl_357, sk_358, sl_358, sk_359, sl_359, sk_360, sl_360, sk_361, sk_362, sl_362, sk_363, sk_376, sk_377, sl_377, sk_378, sk_379, sl_379, sk_380, sl_380, sk_381, sl_381, sk_382, sl_382, sk_383, sl_383, sk_384, sl_384, sk_385, sl_385, sk_386, sl_386, sk_387, sl_387, sk_388, sl_388, sk_389, sl_389, sk_390, sl_390, sk_391, sl_391, sk_392, sl_392, sk_393, sl_393, sk_394, sl_394, sr_0_0, sr_0_1, sr_0_2, sr_0_3, sr_0_4, sr_0_5, sr_0_6, sr_0_7, sr_0_8, sr_0_9, sr_1_0, sr_1_1, sr_1_2, sr_13_0, sr_15_0, sr_15_2, sr_40_0, sr_355_0, sr_355_1, sr_355_2, sr_355_3, sr_355_4, sr_355_5, sr_361_2, sr_361_5, sr_361_6, sr_363_0, sr_363_1, sr_376_0, sr_376_2, sr_378_0, sr_378_1, sr_378_2, sr_378_4, sr_378_8, sr_378_10, sr_378_11, sr_378_12, sr_378_14, sr_378_20, sr_378_21, sr_378_22, sr_378_23, sr_378_24, sr_378_25, sr_378_26, am_vs, am_lg28.k, e0, gk]
        repeat (first | rw [if_pos (by omega)] | rw [if_neg (by omega)])
        exact ih _) (k := 0) (x := piT t (sgD t) g1 5) (by omega) ⟨fun p hp => by omega, fun p _ hp => hpi p hp⟩
  refine ⟨g2, fun p hp => hg2.1 p (by omega), mX2_foretell rfl rfl ?_⟩
  simp (disch := first | omega | simp only [am_ci, am_cr, am_ca]) only [eX2_foretell_0, eX2_foretell_1, am_bi, Int.reduceEq, Int.reduceLT, Int.reduceLE, Int.reduceToNat, ite_self, Decidable.not_not, not_true_eq_false, not_false_eq_true, ↓reduceIte, am_ci, am_cr, am_ca, am_b0, am_b1, am_ts, am_tn, am_then_some, List.cons_append, List.nil_append, ne_eq, iI_lit, iI_add, iI_sub, iI_mul, iI_neg, iI_lt, iI_le, iI_eq, iI_in, iI_clz, dI_ap, dI_wr, setR_s, wE_R, setR_2, setR_n, setR_o, updI_s, updI_n, updI_2, tl_0, tl_1, tl_2, tl_3, tl_4, tl_5, tl_6, tl_7, tl_8, tl_9, tl_10, tl_11, tl_12, tl_13, tl_14, tl_15, tl_16, tn_3, tn_5, tn_13, tn_21, tn_29, tn_33, tn_37, tn_41, tn_45, tn_49, tn_53, tn_57, tn_61, tn_40, tn_p, tn_0, true_and, and_true, sk_0, sk_1, sk_2, sl_2, sk_3, sl_3, sk_4, sl_4, sk_5, sl_5, sk_6, sl_6, sk_7, sl_7, sk_8, sl_8, sk_9, sl_9, sk_10, sl_10, sk_11, sl_11, sk_12, sl_12, sk_13, sk_14, sl_14, sk_15, sk_40, sk_41, sl_41, sk_330, sl_330, sk_355, sk_356, sl_356, sk_357, sl_357, sk_358, sl_358, sk_359, sl_359, sk_360, sl_360, sk_361, sk_362, sl_362, sk_363, sk_376, sk_377, sl_377, sk_378, sk_379, sl_379, sk_380, sl_380, sk_381, sl_381, sk_382, sl_382, sk_383, sl_383, sk_384, sl_384, sk_385, sl_385, sk_386, sl_386, sk_387, sl_387, sk_388, sl_388, sk_389, sl_389, sk_390, sl_390, sk_391, sl_391, sk_392, sl_392, sk_393, sl_393, sk_394, sl_394, sr_0_0, sr_0_1, sr_0_2, sr_0_3, sr_0_4, sr_0_5, sr_0_6, sr_0_7, sr_0_8, sr_0_9, sr_1_0, sr_1_1, sr_1_2, sr_13_0, sr_15_0, sr_15_2, sr_40_0, sr_355_0, sr_355_1, sr_355_2, sr_355_3, sr_355_4, sr_355_5, sr_361_2, sr_361_5, sr_361_6, sr_363_0, sr_363_1, sr_376_0, sr_376_2, sr_378_0, sr_378_1, sr_378_2, sr_378_4, sr_378_8, sr_378_10, sr_378_11, sr_378_12, sr_378_14, sr_378_20, sr_378_21, sr_378_22, sr_378_23, sr_378_24, sr_378_25, sr_378_26, am_vs]
  rw [setR_e] at he0
  refine he0 _ (fun v4 v5 => ?_) _ _
  have H3 := c_shipsAtSea (d := d) (a := 28) (E := setR E 356 g0) am_lg28 (fR_s hF0 (q := 356) (by omega)).1.1 hb (fR_s hF0 (q := 356) (by omega)).1.2
  rw [hK, show ((K : Int)).toNat = K from rfl] at H3
  have H4 := iI_an (s := seT t K) (m := m) (by omega) hm
  rw [eX2_foretell_2]
  simp (disch := first | omega | simp only [am_ci, am_cr, am_ca]) only [eX2_foretell_3, eX2_foretell_4, eX2_foretell_7, eX2_foretell_10, eX2_foretell_13, eX2_foretell_14, eX2_foretell_17, eX2_foretell_18, eX2_foretell_19, eX2_foretell_22, eX2_foretell_24, eX2_foretell_25, eX2_foretell_28, eX2_foretell_29, eX2_foretell_31, eX2_foretell_33, eX2_foretell_36, eX2_foretell_38, eX2_foretell_41, eX2_foretell_43, eX2_foretell_44, eX2_foretell_47, eX2_foretell_50, eX2_foretell_51, eX2_foretell_54, eX2_foretell_57, eX2_foretell_58, eX2_foretell_59, eX2_foretell_60, eX2_foretell_61, eX2_foretell_62, eX2_foretell_63, am_bi, Int.reduceEq, Int.reduceLT, Int.reduceLE, Int.reduceToNat, ite_self, Decidable.not_not, not_true_eq_false, not_false_eq_true, ↓reduceIte, am_ci, am_cr, am_ca, am_b0, am_b1, am_ts, am_tn, am_then_some, List.cons_append, List.nil_append, ne_eq, iI_lit, iI_add, iI_sub, iI_mul, iI_neg, iI_lt, iI_le, iI_eq, iI_in, iI_clz, dI_ap, dI_wr, setR_s, wE_R, setR_2, setR_n, setR_o, updI_s, updI_n, updI_2, tl_0, tl_1, tl_2, tl_3, tl_4, tl_5, tl_6, tl_7, tl_8, tl_9, tl_10, tl_11, tl_12, tl_13, tl_14, tl_15, tl_16, tn_3, tn_5, tn_13, tn_21, tn_29, tn_33, tn_37, tn_41, tn_45, tn_49, tn_53, tn_57, tn_61, tn_40, tn_p, tn_0, true_and, and_true, sk_0, sk_1, sk_2, sl_2, sk_3, sl_3, sk_4, sl_4, sk_5, sl_5, sk_6, sl_6, sk_7, sl_7, sk_8, sl_8, sk_9, sl_9, sk_10, sl_10, sk_11, sl_11, sk_12, sl_12, sk_13, sk_14, sl_14, sk_15, sk_40, sk_41, sl_41, sk_330, sl_330, sk_355, sk_356, sl_356, sk_357, sl_357, sk_358, sl_358, sk_359, sl_359, sk_360, sl_360, sk_361, sk_362, sl_362, sk_363, sk_376, sk_377, sl_377, sk_378, sk_379, sl_379, sk_380, sl_380, sk_381, sl_381, sk_382, sl_382, sk_383, sl_383, sk_384, sl_384, sk_385, sl_385, sk_386, sl_386, sk_387, sl_387, sk_388, sl_388, sk_389, sl_389, sk_390, sl_390, sk_391, sl_391, sk_392, sl_392, sk_393, sl_393, sk_394, sl_394, sr_0_0, sr_0_1, sr_0_2, sr_0_3, sr_0_4, sr_0_5, sr_0_6, sr_0_7, sr_0_8, sr_0_9, sr_1_0, sr_1_1, sr_1_2, sr_13_0, sr_15_0, sr_15_2, sr_40_0, sr_355_0, sr_355_1, sr_355_2, sr_355_3, sr_355_4, sr_355_5, sr_361_2, sr_361_5, sr_361_6, sr_363_0, sr_363_1, sr_376_0, sr_376_2, sr_378_0, sr_378_1, sr_378_2, sr_378_4, sr_378_8, sr_378_10, sr_378_11, sr_378_12, sr_378_14, sr_378_20, sr_378_21, sr_378_22, sr_378_23, sr_378_24, sr_378_25, sr_378_26, am_vs, am_lg28.k, e0, H3, H4]
  repeat (first | rw [if_pos (by omega)] | rw [if_neg (by omega)])
  refine he1 _ (fun v5 => ?_) _
  rw [eX2_foretell_65]
  simp (disch := first | omega | simp only [am_ci, am_cr, am_ca]) only [eX2_foretell_67, eX2_foretell_68, eX2_foretell_71, eX2_foretell_74, eX2_foretell_77, eX2_foretell_78, eX2_foretell_80, eX2_foretell_81, eX2_foretell_82, eX2_foretell_83, eX2_foretell_84, eX2_foretell_87, eX2_foretell_88, eX2_foretell_91, eX2_foretell_93, eX2_foretell_94, eX2_foretell_97, eX2_foretell_100, eX2_foretell_101, eX2_foretell_104, eX2_foretell_107, eX2_foretell_109, eX2_foretell_110, eX2_foretell_112, eX2_foretell_113, eX2_foretell_116, eX2_foretell_118, eX2_foretell_119, eX2_foretell_122, eX2_foretell_124, eX2_foretell_125, eX2_foretell_126, eX2_foretell_129, eX2_foretell_132, eX2_foretell_134, eX2_foretell_135, eX2_foretell_138, eX2_foretell_139, eX2_foretell_142, eX2_foretell_145, eX2_foretell_146, eX2_foretell_147, eX2_foretell_150, eX2_foretell_152, eX2_foretell_155, eX2_foretell_156, am_bi, Int.reduceEq, Int.reduceLT, Int.reduceLE, Int.reduceToNat, ite_self, Decidable.not_not, not_true_eq_false, not_false_eq_true, ↓reduceIte, am_ci, am_cr, am_ca, am_b0, am_b1, am_ts, am_tn, am_then_some, List.cons_append, List.nil_append, ne_eq, iI_lit, iI_add, iI_sub, iI_mul, iI_neg, iI_lt, iI_le, iI_eq, iI_in, iI_clz, dI_ap, dI_wr, setR_s, wE_R, setR_2, setR_n, setR_o, updI_s, updI_n, updI_2, tl_0, tl_1, tl_2, tl_3, tl_4, tl_5, tl_6, tl_7, tl_8, tl_9, tl_10, tl_11, tl_12, tl_13, tl_14, tl_15, tl_16, tn_3, tn_5, tn_13, tn_21, tn_29, tn_33, tn_37, tn_41, tn_45, tn_49, tn_53, tn_57, tn_61, tn_40, tn_p, tn_0, true_and, and_true, sk_0, sk_1, sk_2, sl_2, sk_3, sl_3, sk_4, sl_4, sk_5, sl_5, sk_6, sl_6, sk_7, sl_7, sk_8, sl_8, sk_9, sl_9, sk_10, sl_10, sk_11, sl_11, sk_12, sl_12, sk_13, sk_14, sl_14, sk_15, sk_40, sk_41, sl_41, sk_330, sl_330, sk_355, sk_356, sl_356, sk_357, sl_357, sk_358, sl_358, sk_359, sl_359, sk_360, sl_360, sk_361, sk_362, sl_362, sk_363, sk_376, sk_377, sl_377, sk_378, sk_379, sl_379, sk_380, sl_380, sk_381, sl_381, sk_382, sl_382, sk_383, sl_383, sk_384, sl_384, sk_385, sl_385, sk_386, sl_386, sk_387, sl_387, sk_388, sl_388, sk_389, sl_389, sk_390, sl_390, sk_391, sl_391, sk_392, sl_392, sk_393, sl_393, sk_394, sl_394, sr_0_0, sr_0_1, sr_0_2, sr_0_3, sr_0_4, sr_0_5, sr_0_6, sr_0_7, sr_0_8, sr_0_9, sr_1_0, sr_1_1, sr_1_2, sr_13_0, sr_15_0, sr_15_2, sr_40_0, sr_355_0, sr_355_1, sr_355_2, sr_355_3, sr_355_4, sr_355_5, sr_361_2, sr_361_5, sr_361_6, sr_363_0, sr_363_1, sr_376_0, sr_376_2, sr_378_0, sr_378_1, sr_378_2, sr_378_4, sr_378_8, sr_378_10, sr_378_11, sr_378_12, sr_378_14, sr_378_20, sr_378_21, sr_378_22, sr_378_23, sr_378_24, sr_378_25, sr_378_26, am_vs, am_lg28.k, e2, HS]
  repeat (first | rw [if_pos (by omega)] | rw [if_neg (by omega)])
  refine he2 _ (fun v5 => ?_) _
  rw [eX2_foretell_158]
  simp (disch := first | omega | simp only [am_ci, am_cr, am_ca]) only [eX2_foretell_160, eX2_foretell_161, eX2_foretell_164, eX2_foretell_167, eX2_foretell_170, eX2_foretell_171, eX2_foretell_174, eX2_foretell_176, eX2_foretell_177, eX2_foretell_180, eX2_foretell_183, eX2_foretell_184, eX2_foretell_187, eX2_foretell_189, eX2_foretell_191, eX2_foretell_192, eX2_foretell_195, eX2_foretell_198, am_bi, Int.reduceEq, Int.reduceLT, Int.reduceLE, Int.reduceToNat, ite_self, Decidable.not_not, not_true_eq_false, not_false_eq_true, ↓reduceIte, am_ci, am_cr, am_ca, am_b0, am_b1, am_ts, am_tn, am_then_some, List.cons_append, List.nil_append, ne_eq, iI_lit, iI_add, iI_sub, iI_mul, iI_neg, iI_lt, iI_le, iI_eq, iI_in, iI_clz, dI_ap, dI_wr, setR_s, wE_R, setR_2, setR_n, setR_o, updI_s, updI_n, updI_2, tl_0, tl_1, tl_2, tl_3, tl_4, tl_5, tl_6, tl_7, tl_8, tl_9, tl_10, tl_11, tl_12, tl_13, tl_14, tl_15, tl_16, tn_3, tn_5, tn_13, tn_21, tn_29, tn_33, tn_37, tn_41, tn_45, tn_49, tn_53, tn_57, tn_61, tn_40, tn_p, tn_0, true_and, and_true, sk_0, sk_1, sk_2, sl_2, sk_3, sl_3, sk_4, sl_4, sk_5, sl_5, sk_6, sl_6, sk_7, sl_7, sk_8, sl_8, sk_9, sl_9, sk_10, sl_10, sk_11, sl_11, sk_12, sl_12, sk_13, sk_14, sl_14, sk_15, sk_40, sk_41, sl_41, sk_330, sl_330, sk_355, sk_356, sl_356, sk_357, sl_357, sk_358, sl_358, sk_359, sl_359, sk_360, sl_360, sk_361, sk_362, sl_362, sk_363, sk_376, sk_377, sl_377, sk_378, sk_379, sl_379, sk_380, sl_380, sk_381, sl_381, sk_382, sl_382, sk_383, sl_383, sk_384, sl_384, sk_385, sl_385, sk_386, sl_386, sk_387, sl_387, sk_388, sl_388, sk_389, sl_389, sk_390, sl_390, sk_391, sl_391, sk_392, sl_392, sk_393, sl_393, sk_394, sl_394, sr_0_0, sr_0_1, sr_0_2, sr_0_3, sr_0_4, sr_0_5, sr_0_6, sr_0_7, sr_0_8, sr_0_9, sr_1_0, sr_1_1, sr_1_2, sr_13_0, sr_15_0, sr_15_2, sr_40_0, sr_355_0, sr_355_1, sr_355_2, sr_355_3, sr_355_4, sr_355_5, sr_361_2, sr_361_5, sr_361_6, sr_363_0, sr_363_1, sr_376_0, sr_376_2, sr_378_0, sr_378_1, sr_378_2, sr_378_4, sr_378_8, sr_378_10, sr_378_11, sr_378_12, sr_378_14, sr_378_20, sr_378_21, sr_378_22, sr_378_23, sr_378_24, sr_378_25, sr_378_26, am_vs, am_lg28.k, e0]
  repeat (first | rw [if_pos (by omega)] | rw [if_neg (by omega)])
  trivial
