/-! ===== NewsShips is made ===== -/
def ag (R : Nat → Nat → Option Nat) : Prop := ∀ b, 1 ≤ b → R b = am_rf0 b
theorem ag_0 : ag (rfC am_rf0 0) := fun b hb => by funext i; rw [rfC_n (by omega)]
theorem ag_p {R : Nat → Nat → Option Nat} (h : ag R) (k : Nat) (o : Option Nat) : ag (rfP R 0 k o) := fun b hb => by funext i; rw [rfP_n (by omega), h b hb]
/-- the two images -/
def rbT (R : Nat → Nat → Option Nat) (i : Nat) : Nat → Nat → Option Nat := fun b k => if b = 330 ∧ i ≤ k then none else R b k
theorem rbT_n {R : Nat → Nat → Option Nat} {i b : Nat} (h : b ≠ 330) : rbT R i b = R b := by funext k; unfold rbT; rw [if_neg (fun x => h x.1)]
theorem im_lg : ∀ i, i < 2 → 331 + 12 * i ∈ am_lgs ∧ am_ln am_S0 (331 + 12 * i) = 16 ∧ am_rf0 330 i = some (331 + 12 * i) := by decide +kernel
theorem im_n {k : Nat} (h : 2 ≤ k) : am_rf0 330 k = none := by
  unfold am_rf0
  rw [if_neg (by decide +kernel), if_neg (show ¬ (330 : Nat) = 41 by omega), if_pos (show (330 : Nat) = 330 from rfl), if_neg (by omega)]
theorem kl_o : (am_kd am_S0 1 = 11 ∧ am_ln am_S0 1 = 3) ∧ (am_kd am_S0 13 = 12 ∧ am_ln am_S0 13 = 6) ∧ (am_kd am_S0 15 = 9 ∧ am_ln am_S0 15 = 3) ∧ (am_kd am_S0 28 = 8 ∧ am_ln am_S0 28 = 16) ∧ (am_kd am_S0 40 = 5 ∧ am_ln am_S0 40 = 3) ∧ (am_kd am_S0 330 = 3 ∧ am_ln am_S0 330 = 2) ∧ (am_kd am_S0 355 = 7 ∧ am_ln am_S0 355 = 6) ∧ (am_kd am_S0 361 = 10 ∧ am_ln am_S0 361 = 7) ∧ (am_kd am_S0 363 = 13 ∧ am_ln am_S0 363 = 2) ∧ (am_kd am_S0 376 = 6 ∧ am_ln am_S0 376 = 3) ∧ am_kd am_S0 0 = 14 := by decide +kernel
theorem i_images {d : Nat} {R : Nat → Nat → Option Nat} (hA : ag R) (h5 : R 0 5 = some 330) {r : am_R} (h : ∀ v, am_ev (am_sem (d + 1)) 109 cX9_init 97 [.ref 0, v] [] (am_Sx 355 3093 R) (dI E0) r) : am_ev (am_sem (d + 1)) 109 cX9_init 73 [.ref 0, .int (iI 0)] [] (am_Sx 331 2909 (rbT R 0)) (dI E0) r := by
  have k330 := kl_o.2.2.2.2.2.1
  have k0 := kl_o.2.2.2.2.2.2.2.2.2.2
  have h330 := hA 330 (by omega)
  have r0 : ∀ i, rbT R i 0 5 = some 330 := fun i => by rw [rbT_n (by omega), h5]
  have e2 : rbT R 2 = R := by
    funext b i
    unfold rbT
    split
    · rename_i c; rw [c.1, h330, im_n c.2]
    · rfl
  have lp := am_loop (P := fun i => am_ev (am_sem (d + 1)) 109 cX9_init 73 [.ref 0, .int (iI i)] [] (am_Sx (331 + 12 * i) (2909 + 92 * i) (rbT R i)) (dI E0) r) (n := 2) ?_ ?_ (k := 0) (by omega)
  · exact lp
  · intro i hi ih
    obtain ⟨g1, g2, g3⟩ := im_lg i hi
    have lk := am_lg.k g1
    have nL := fun sl R => sx_n (sl := sl) (R := R) lk g2
    have HL := i_leagueN (d := d) (a := 331 + 12 * i) (sl := 2909 + 92 * i + 16) (R := rbT R i) g1 (by omega) (fun b h1 h2 => by rw [rbT_n (by omega), hA b (by omega)])
    have ep : rfP (rbT R i) 330 i (some (331 + 12 * i)) = rbT R (i + 1) := by
      funext b k
      by_cases c : b = 330
      · subst c
        rw [rfP_s]
        unfold rbT
        by_cases c2 : k = i
        · subst c2; rw [if_pos rfl, if_neg (by omega), h330, g3]
        · rw [if_neg c2]
          by_cases c3 : i ≤ k
          · rw [if_pos ⟨rfl, c3⟩, if_pos ⟨rfl, by omega⟩]
          · rw [if_neg (by omega), if_neg (by omega)]
      · rw [rfP_n c, rbT_n c, rbT_n c]
    rw [show ((i + 1 : Nat) : Int) = (i : Int) + 1 by omega, ← ep, show 331 + 12 * (i + 1) = 331 + 12 * i + 12 by omega, show 2909 + 92 * (i + 1) = 2909 + 92 * i + 16 + 76 by omega] at ih
    rw [eX9_init_73]
    simp (disch := first | omega | simp only [am_ci, am_cr, am_ca]) only [eX9_init_74, eX9_init_75, eX9_init_78, eX9_init_79, eX9_init_82, eX9_init_83, eX9_init_86, eX9_init_87, eX9_init_90, eX9_init_91, eX9_init_94, am_bi, Int.reduceEq, Int.reduceLT, Int.reduceLE, Int.reduceToNat, ite_self, Decidable.not_not, not_true_eq_false, not_false_eq_true, ↓reduceIte, am_ci, am_cr, am_ca, am_b0, am_b1, am_ts, am_tn, am_then_some, List.cons_append, List.nil_append, ne_eq, iI_lit, iI_add, iI_sub, iI_mul, iI_neg, iI_lt, iI_le, iI_eq, iI_in, iI_clz, dI_ap, dI_wr, setR_s, wE_R, setR_2, setR_n, setR_o, updI_s, updI_n, updI_2, tl_0, tl_1, tl_2, tl_3, tl_4, tl_5, tl_6, tl_7, tl_8, tl_9, tl_10, tl_11, tl_12, tl_13, tl_14, tl_15, tl_16, tn_3, tn_5, tn_13, tn_21, tn_29, tn_33, tn_37, tn_41, tn_45, tn_49, tn_53, tn_57, tn_61, tn_40, tn_p, tn_0, true_and, and_true, sk_0, sk_1, sk_2, sl_2, sk_3, sl_3, sk_4, sl_4, sk_5, sl_5, sk_6, sl_6, sk_7, sl_7, sk_8, sl_8, sk_9, sl_9, sk_10, sl_10, sk_11, sl_11, sk_12, sl_12, sk_13, sk_14, sl_14, sk_15, sk_40, sk_41, sl_41, sk_330, sl_330, sk_355, sk_356, sl_356, sk_357, sl_357, sk_358, sl_358, sk_359, sl_359, sk_360, sl_360, sk_361, sk_362, sl_362, sk_363, sk_376, sk_377, sl_377, sk_378, sk_379, sl_379, sk_380, sl_380, sk_381, sl_381, sk_382, sl_382, sk_383, sl_383, sk_384, sl_384, sk_385, sl_385, sk_386, sl_386, sk_387, sl_387, sk_388, sl_388, sk_389, sl_389, sk_390, sl_390, sk_391, sl_391, sk_392, sl_392, sk_393, sl_393, sk_394, sl_394, sr_0_0, sr_0_1, sr_0_2, sr_0_3, sr_0_4, sr_0_5, sr_0_6, sr_0_7, sr_0_8, sr_0_9, sr_1_0, sr_1_1, sr_1_2, sr_13_0, sr_15_0, sr_15_2, sr_40_0, sr_355_0, sr_355_1, sr_355_2, sr_355_3, sr_355_4, sr_355_5, sr_361_2, sr_361_5, sr_361_6, sr_363_0, sr_363_1, sr_376_0, sr_376_2, sr_378_0, sr_378_1, sr_378_2, sr_378_4, sr_378_8, sr_378_10, sr_378_11, sr_378_12, sr_378_14, sr_378_20, sr_378_21, sr_378_22, sr_378_23, sr_378_24, sr_378_25, sr_378_26, am_vs, sx_k, sx_x, sx_r, sx_l, sx_w, r0, k0, nL, zr_0, am_nf, lk, HL, k330.1, k330.2]
    repeat (first | rw [if_pos (by omega)] | rw [if_neg (by omega)])
    exact ih
  · rw [e2, eX9_init_73]
    simp (disch := first | omega | simp only [am_ci, am_cr, am_ca]) only [eX9_init_74, eX9_init_75, am_bi, Int.reduceEq, Int.reduceLT, Int.reduceLE, Int.reduceToNat, ite_self, Decidable.not_not, not_true_eq_false, not_false_eq_true, ↓reduceIte, am_ci, am_cr, am_ca, am_b0, am_b1, am_ts, am_tn, am_then_some, List.cons_append, List.nil_append, ne_eq, iI_lit, iI_add, iI_sub, iI_mul, iI_neg, iI_lt, iI_le, iI_eq, iI_in, iI_clz, dI_ap, dI_wr, setR_s, wE_R, setR_2, setR_n, setR_o, updI_s, updI_n, updI_2, tl_0, tl_1, tl_2, tl_3, tl_4, tl_5, tl_6, tl_7, tl_8, tl_9, tl_10, tl_11, tl_12, tl_13, tl_14, tl_15, tl_16, tn_3, tn_5, tn_13, tn_21, tn_29, tn_33, tn_37, tn_41, tn_45, tn_49, tn_53, tn_57, tn_61, tn_40, tn_p, tn_0, true_and, and_true, sk_0, sk_1, sk_2, sl_2, sk_3, sl_3, sk_4, sl_4, sk_5, sl_5, sk_6, sl_6, sk_7, sl_7, sk_8, sl_8, sk_9, sl_9, sk_10, sl_10, sk_11, sl_11, sk_12, sl_12, sk_13, sk_14, sl_14, sk_15, sk_40, sk_41, sl_41, sk_330, sl_330, sk_355, sk_356, sl_356, sk_357, sl_357, sk_358, sl_358, sk_359, sl_359, sk_360, sl_360, sk_361, sk_362, sl_362, sk_363, sk_376, sk_377, sl_377, sk_378, sk_379, sl_379, sk_380, sl_380, sk_381, sl_381, sk_382, sl_382, sk_383, sl_383, sk_384, sl_384, sk_385, sl_385, sk_386, sl_386, sk_387, sl_387, sk_388, sl_388, sk_389, sl_389, sk_390, sl_390, sk_391, sl_391, sk_392, sl_392, sk_393, sl_393, sk_394, sl_394, sr_0_0, sr_0_1, sr_0_2, sr_0_3, sr_0_4, sr_0_5, sr_0_6, sr_0_7, sr_0_8, sr_0_9, sr_1_0, sr_1_1, sr_1_2, sr_13_0, sr_15_0, sr_15_2, sr_40_0, sr_355_0, sr_355_1, sr_355_2, sr_355_3, sr_355_4, sr_355_5, sr_361_2, sr_361_5, sr_361_6, sr_363_0, sr_363_1, sr_376_0, sr_376_2, sr_378_0, sr_378_1, sr_378_2, sr_378_4, sr_378_8, sr_378_10, sr_378_11, sr_378_12, sr_378_14, sr_378_20, sr_378_21, sr_378_22, sr_378_23, sr_378_24, sr_378_25, sr_378_26, am_vs]
    rw [if_pos (by omega)]
    exact h _
