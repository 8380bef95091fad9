/-! ===== rows ===== -/
theorem j_fillS {d q L : Nat} {z : Int} {E : Nat → Nat → Int} {S : am_S} (hk : am_kd S q = 1) (hl : am_ln S q = L) (hL : L < 100000) : am_sem (d + 1) 211 [.ref q, .int (iI z)] S (dI E) = some (none, S, dI (setR E q (flT (E q) z L))) := by
  refine mJ7_fill_53178 rfl rfl ?_
  simp (disch := first | omega | simp only [am_ci, am_cr, am_ca]) only [eJ7_fill_53178_0, eJ7_fill_53178_1, eJ7_fill_53178_2, eJ7_fill_53178_3, eJ7_fill_53178_4, am_bi, Int.reduceEq, Int.reduceLT, Int.reduceLE, Int.reduceToNat, ite_self, Decidable.not_not, not_true_eq_false, not_false_eq_true, ↓reduceIte, am_ci, am_cr, am_ca, am_b0, am_b1, am_ts, am_tn, am_then_some, List.cons_append, List.nil_append, ne_eq, iI_lit, iI_add, iI_sub, iI_mul, iI_neg, iI_lt, iI_le, iI_eq, iI_in, iI_clz, dI_ap, dI_wr, setR_s, wE_R, setR_2, setR_n, setR_o, updI_s, updI_n, updI_2, tl_0, tl_1, tl_2, tl_3, tl_4, tl_5, tl_6, tl_7, tl_8, tl_9, tl_10, tl_11, tl_12, tl_13, tl_14, tl_15, tl_16, tn_3, tn_5, tn_13, tn_21, tn_29, tn_33, tn_37, tn_41, tn_45, tn_49, tn_53, tn_57, tn_61, tn_40, tn_p, tn_0, true_and, and_true, sk_0, sk_1, sk_2, sl_2, sk_3, sl_3, sk_4, sl_4, sk_5, sl_5, sk_6, sl_6, sk_7, sl_7, sk_8, sl_8, sk_9, sl_9, sk_10, sl_10, sk_11, sl_11, sk_12, sl_12, sk_13, sk_14, sl_14, sk_15, sk_40, sk_41, sl_41, sk_330, sl_330, sk_355, sk_356, sl_356, sk_357, sl_357, sk_358, sl_358, sk_359, sl_359, sk_360, sl_360, sk_361, sk_362, sl_362, sk_363, sk_376, sk_377, sl_377, sk_378, sk_379, sl_379, sk_380, sl_380, sk_381, sl_381, sk_382, sl_382, sk_383, sl_383, sk_384, sl_384, sk_385, sl_385, sk_386, sl_386, sk_387, sl_387, sk_388, sl_388, sk_389, sl_389, sk_390, sl_390, sk_391, sl_391, sk_392, sl_392, sk_393, sl_393, sk_394, sl_394, sr_0_0, sr_0_1, sr_0_2, sr_0_3, sr_0_4, sr_0_5, sr_0_6, sr_0_7, sr_0_8, sr_0_9, sr_1_0, sr_1_1, sr_1_2, sr_13_0, sr_15_0, sr_15_2, sr_40_0, sr_355_0, sr_355_1, sr_355_2, sr_355_3, sr_355_4, sr_355_5, sr_361_2, sr_361_5, sr_361_6, sr_363_0, sr_363_1, sr_376_0, sr_376_2, sr_378_0, sr_378_1, sr_378_2, sr_378_4, sr_378_8, sr_378_10, sr_378_11, sr_378_12, sr_378_14, sr_378_20, sr_378_21, sr_378_22, sr_378_23, sr_378_24, sr_378_25, sr_378_26, am_vs, hk, hl, iI_nI]
  have h0 := am_loop (P := fun k => am_ev (am_sem d) 13 cJ7_fill_53178 5 [.ref q, .int (iI z), .int (iI k), .int (iI L)] [] S (dI (setR E q (flT (E q) z k))) (none, S, dI (setR E q (flT (E q) z L)))) (n := L) ?_ ?_ (k := 0) (by omega)
  · have e : flT (E q) z 0 = E q := by funext x; unfold flT; rw [if_neg (by omega)]
    rw [e, setR_e] at h0
    exact h0
  · intro k hk2 ih
    rw [eJ7_fill_53178_5]
    simp (disch := first | omega | simp only [am_ci, am_cr, am_ca]) only [eJ7_fill_53178_6, eJ7_fill_53178_7, eJ7_fill_53178_10, eJ7_fill_53178_11, eJ7_fill_53178_12, eJ7_fill_53178_13, eJ7_fill_53178_14, eJ7_fill_53178_17, am_bi, Int.reduceEq, Int.reduceLT, Int.reduceLE, Int.reduceToNat, ite_self, Decidable.not_not, not_true_eq_false, not_false_eq_true, ↓reduceIte, am_ci, am_cr, am_ca, am_b0, am_b1, am_ts, am_tn, am_then_some, List.cons_append, List.nil_append, ne_eq, iI_lit, iI_add, iI_sub, iI_mul, iI_neg, iI_lt, iI_le, iI_eq, iI_in, iI_clz, dI_ap, dI_wr, setR_s, wE_R, setR_2, setR_n, setR_o, updI_s, updI_n, updI_2, tl_0, tl_1, tl_2, tl_3, tl_4, tl_5, tl_6, tl_7, tl_8, tl_9, tl_10, tl_11, tl_12, tl_13, tl_14, tl_15, tl_16, tn_3, tn_5, tn_13, tn_21, tn_29, tn_33, tn_37, tn_41, tn_45, tn_49, tn_53, tn_57, tn_61, tn_40, tn_p, tn_0, true_and, and_true, sk_0, sk_1, sk_2, sl_2, sk_3, sl_3, sk_4, sl_4, sk_5, sl_5, sk_6, sl_6, sk_7, sl_7, sk_8, sl_8, sk_9, sl_9, sk_10, sl_10, sk_11, sl_11, sk_12, sl_12, sk_13, sk_14, sl_14, sk_15, sk_40, sk_41, sl_41, sk_330, sl_330, sk_355, sk_356, sl_356, sk_357, sl_357, sk_358, sl_358, sk_359, sl_359, sk_360, sl_360, sk_361, sk_362, sl_362, sk_363, sk_376, sk_377, sl_377, sk_378, sk_379, sl_379, sk_380, sl_380, sk_381, sl_381, sk_382, sl_382, sk_383, sl_383, sk_384, sl_384, sk_385, sl_385, sk_386, sl_386, sk_387, sl_387, sk_388, sl_388, sk_389, sl_389, sk_390, sl_390, sk_391, sl_391, sk_392, sl_392, sk_393, sl_393, sk_394, sl_394, sr_0_0, sr_0_1, sr_0_2, sr_0_3, sr_0_4, sr_0_5, sr_0_6, sr_0_7, sr_0_8, sr_0_9, sr_1_0, sr_1_1, sr_1_2, sr_13_0, sr_15_0, sr_15_2, sr_40_0, sr_355_0, sr_355_1, sr_355_2, sr_355_3, sr_355_4, sr_355_5, sr_361_2, sr_361_5, sr_361_6, sr_363_0, sr_363_1, sr_376_0, sr_376_2, sr_378_0, sr_378_1, sr_378_2, sr_378_4, sr_378_8, sr_378_10, sr_378_11, sr_378_12, sr_378_14, sr_378_20, sr_378_21, sr_378_22, sr_378_23, sr_378_24, sr_378_25, sr_378_26, am_vs, hk, hl, flT_s]
    rw [if_neg (by omega)]
    exact ih
  · rw [eJ7_fill_53178_5]
    simp (disch := first | omega | simp only [am_ci, am_cr, am_ca]) only [eJ7_fill_53178_6, eJ7_fill_53178_7, eJ7_fill_53178_10, eJ7_fill_53178_11, eJ7_fill_53178_12, eJ7_fill_53178_13, eJ7_fill_53178_14, eJ7_fill_53178_17, eJ7_fill_53178_20, am_bi, Int.reduceEq, Int.reduceLT, Int.reduceLE, Int.reduceToNat, ite_self, Decidable.not_not, not_true_eq_false, not_false_eq_true, ↓reduceIte, am_ci, am_cr, am_ca, am_b0, am_b1, am_ts, am_tn, am_then_some, List.cons_append, List.nil_append, ne_eq, iI_lit, iI_add, iI_sub, iI_mul, iI_neg, iI_lt, iI_le, iI_eq, iI_in, iI_clz, dI_ap, dI_wr, setR_s, wE_R, setR_2, setR_n, setR_o, updI_s, updI_n, updI_2, tl_0, tl_1, tl_2, tl_3, tl_4, tl_5, tl_6, tl_7, tl_8, tl_9, tl_10, tl_11, tl_12, tl_13, tl_14, tl_15, tl_16, tn_3, tn_5, tn_13, tn_21, tn_29, tn_33, tn_37, tn_41, tn_45, tn_49, tn_53, tn_57, tn_61, tn_40, tn_p, tn_0, true_and, and_true, sk_0, sk_1, sk_2, sl_2, sk_3, sl_3, sk_4, sl_4, sk_5, sl_5, sk_6, sl_6, sk_7, sl_7, sk_8, sl_8, sk_9, sl_9, sk_10, sl_10, sk_11, sl_11, sk_12, sl_12, sk_13, sk_14, sl_14, sk_15, sk_40, sk_41, sl_41, sk_330, sl_330, sk_355, sk_356, sl_356, sk_357, sl_357, sk_358, sl_358, sk_359, sl_359, sk_360, sl_360, sk_361, sk_362, sl_362, sk_363, sk_376, sk_377, sl_377, sk_378, sk_379, sl_379, sk_380, sl_380, sk_381, sl_381, sk_382, sl_382, sk_383, sl_383, sk_384, sl_384, sk_385, sl_385, sk_386, sl_386, sk_387, sl_387, sk_388, sl_388, sk_389, sl_389, sk_390, sl_390, sk_391, sl_391, sk_392, sl_392, sk_393, sl_393, sk_394, sl_394, sr_0_0, sr_0_1, sr_0_2, sr_0_3, sr_0_4, sr_0_5, sr_0_6, sr_0_7, sr_0_8, sr_0_9, sr_1_0, sr_1_1, sr_1_2, sr_13_0, sr_15_0, sr_15_2, sr_40_0, sr_355_0, sr_355_1, sr_355_2, sr_355_3, sr_355_4, sr_355_5, sr_361_2, sr_361_5, sr_361_6, sr_363_0, sr_363_1, sr_376_0, sr_376_2, sr_378_0, sr_378_1, sr_378_2, sr_378_4, sr_378_8, sr_378_10, sr_378_11, sr_378_12, sr_378_14, sr_378_20, sr_378_21, sr_378_22, sr_378_23, sr_378_24, sr_378_25, sr_378_26, am_vs]
    rw [if_pos (by omega)]
    trivial
theorem zr_R (E : Nat → Nat → Int) (b : Nat) : am_zr (dI E) b = dI (setR E b (fun _ => 0)) := by
  funext a i
  show (if a = b then (0 : Int32) else iI (E a i)) = iI (setR E b (fun _ => 0) a i)
  by_cases e : a = b
  · subst e; rw [if_pos rfl, setR_s]; rfl
  · rw [if_neg e, setR_n e]
def E1 : Nat → Nat → Int := setR E0 2 (fun _ => 0)
theorem E1_2 : setR E1 2 (flT (E1 2) (-1) 8) = E0 := by
  unfold E1
  rw [setR_2, setR_s]
  funext b i
  by_cases c : b = 2
  · subst c
    rw [setR_s]
    unfold flT E0
    by_cases c2 : i < 8
    · rw [if_pos c2, if_pos ⟨Or.inl rfl, c2⟩]
    · rw [if_neg c2, if_neg (fun x => c2 x.2)]
  · rw [setR_n c]
theorem zr_1 (b : Nat) (h : ¬ b = 380) : am_zr (dI E1) b = dI E1 := by
  rw [zr_R]
  congr 1
  funext a i
  by_cases c : a = b
  · subst c
    rw [setR_s]
    unfold E1
    by_cases c2 : a = 2
    · subst c2; rw [setR_s]
    · rw [setR_n c2, E0_z (by omega)]
  · rw [setR_n c]
theorem zs_1 : am_zs (dI E1) 4 (1 + 8) = dI E1 := by
  funext a i
  show (if 4 ≤ a ∧ a < 4 + (1 + 8) then (0 : Int32) else iI (E1 a i)) = iI (E1 a i)
  split
  · rename_i c
    unfold E1
    rw [setR_n (by omega), E0_z (by omega)]
    rfl
  · rfl
theorem mw_4 {sl : Nat} {R : Nat → Nat → Option Nat} (hR : ∀ b, 4 ≤ b → b < 13 → R b = am_rf0 b) : am_mw (am_Sx 4 sl R) 8 40 = am_Sx 13 (sl + 328) R := by
  have K : ∀ a, a < 13 → 4 ≤ a → (if a = 4 then 4 else if 4 < a ∧ a < 4 + 1 + 8 then 1 else am_S0.1 a) = am_S0.1 a ∧ (if a = 4 then 8 else if 4 < a ∧ a < 4 + 1 + 8 then 40 else am_S0.2.1 a) = am_S0.2.1 a := by decide +kernel
  have e1 : (fun a => if a = 4 then 4 else if 4 < a ∧ a < 4 + 1 + 8 then 1 else if a < 4 then am_S0.1 a else 0) = fun a => if a < 13 then am_S0.1 a else 0 := by
    funext a
    by_cases c : a < 13 ∧ 4 ≤ a
    · rw [if_pos c.1, ← (K a c.1 c.2).1]
      by_cases c2 : a = 4
      · rw [if_pos c2, if_pos c2]
      · rw [if_neg c2, if_neg c2, if_pos (by omega), if_pos (by omega)]
    · rw [if_neg (by omega), if_neg (by omega)]
      by_cases c2 : a < 4
      · rw [if_pos c2, if_pos (by omega)]
      · rw [if_neg c2, if_neg (by omega)]
  have e2 : (fun a => if a = 4 then 8 else if 4 < a ∧ a < 4 + 1 + 8 then 40 else am_S0.2.1 a) = am_S0.2.1 := by
    funext a
    by_cases c : a < 13 ∧ 4 ≤ a
    · exact (K a c.1 c.2).2
    · rw [if_neg (by omega), if_neg (by omega)]
  have e3 : (fun a i => if a = 4 then (if i < 8 then some (4 + 1 + i) else none) else R a i) = R := by
    funext a i
    by_cases c : a = 4
    · subst c
      rw [if_pos rfl, hR 4 (by omega) (by omega)]
      unfold am_rf0
      rw [if_neg (show 4 ∉ am_lgs by decide +kernel), if_neg (show ¬ (4 : Nat) = 41 by omega), if_neg (show ¬ (4 : Nat) = 330 by omega), if_pos (show (4 : Nat) = 4 from rfl)]
    · rw [if_neg c]
  show ((fun a => if a = 4 then 4 else if 4 < a ∧ a < 4 + 1 + 8 then 1 else if a < 4 then am_S0.1 a else 0), (fun a => if a = 4 then 8 else if 4 < a ∧ a < 4 + 1 + 8 then 40 else am_S0.2.1 a), (fun a i => if a = 4 then (if i < 8 then some (4 + 1 + i) else none) else R a i), 4 + 1 + 8, sl + 8 + 8 * 40) = _
  rw [e1, e2, e3]
  rfl
theorem i_rows {d sl : Nat} {R : Nat → Nat → Option Nat} (hR : ∀ b, 1 ≤ b → b < 13 → R b = am_rf0 b) : am_sem (d + 2) 72 [.ref 1] (am_Sx 2 sl (rfC R 1)) (dI E0) = some (none, am_Sx 13 (sl + 344) R, dI E0) := by
  have n1 := fun sl R => sx_n (sl := sl) (R := R) sk_2 sl_2
  have n2 := fun sl R => sx_n (sl := sl) (R := R) sk_3 sl_3
  have z0 : am_zr (dI E0) 2 = dI E1 := zr_R E0 2
  have hr2 : ∀ i, R 2 i = none := fun i => by rw [hR 2 (by omega) (by omega)]; exact rf0_n (by decide +kernel) i
  have hr3 : ∀ i, R 3 i = none := fun i => by rw [hR 3 (by omega) (by omega)]; exact rf0_n (by decide +kernel) i
  have hm := mw_4 (sl := sl + (8 + 8)) (R := rfP (rfC (rfP (rfC (rfC R 1) 2) 1 0 (some 2)) 3) 1 1 (some 3)) (fun b h1 h2 => by
    funext i
    simp (disch := omega) only [rfP_n, rfC_n]
    rw [hR b (by omega) h2])
  have e : rfP (rfP (rfC (rfP (rfC (rfC R 1) 2) 1 0 (some 2)) 3) 1 1 (some 3)) 1 2 (some 4) = R := by
    funext b i
    by_cases c : b = 1
    · subst c
      simp (disch := omega) only [rfP_s, rfC_n]
      rw [rfC_s, hR 1 (by omega) (by omega)]
      by_cases c0 : i = 0
      · subst c0; rfl
      · by_cases c1 : i = 1
        · subst c1; rfl
        · by_cases c2 : i = 2
          · subst c2; rfl
          · rw [if_neg c2, if_neg c1, if_neg c0]
            exact (rf0_f (ks := [0, 1, 2]) (by decide +kernel) (by simp [c0, c1, c2])).symm
    · by_cases c2 : b = 2
      · subst c2
        simp (disch := omega) only [rfP_n, rfC_n, rfC_s]
        rw [hr2]
      · by_cases c3 : b = 3
        · subst c3
          simp (disch := omega) only [rfP_n, rfC_n, rfC_s]
          rw [hr3]
        · simp (disch := omega) only [rfP_n, rfC_n]
  have HF := j_fillS (d := d) (q := 2) (L := 8) (z := -1) (E := E1) (S := am_Sx 13 (sl + (8 + 8) + 328) R) ((sx_k (by omega)).trans sk_2) sl_2 (by omega)
  rw [E1_2] at HF
  have r10 : R 1 0 = some 2 := by rw [hR 1 (by omega) (by omega)]; rfl
  refine mX6_init rfl rfl ?_
  simp (disch := first | omega | simp only [am_ci, am_cr, am_ca]) only [eX6_init_0, eX6_init_1, eX6_init_4, eX6_init_5, eX6_init_7, eX6_init_9, eX6_init_12, eX6_init_13, eX6_init_15, eX6_init_17, eX6_init_20, eX6_init_21, eX6_init_23, eX6_init_25, eX6_init_29, eX6_init_32, eX6_init_33, eX6_init_36, eX6_init_37, eX6_init_40, am_bi, Int.reduceEq, Int.reduceLT, Int.reduceLE, Int.reduceToNat, ite_self, Decidable.not_not, not_true_eq_false, not_false_eq_true, ↓reduceIte, am_ci, am_cr, am_ca, am_b0, am_b1, am_ts, am_tn, am_then_some, List.cons_append, List.nil_append, ne_eq, iI_lit, iI_add, iI_sub, iI_mul, iI_neg, iI_lt, iI_le, iI_eq, iI_in, iI_clz, dI_ap, dI_wr, setR_s, wE_R, setR_2, setR_n, setR_o, updI_s, updI_n, updI_2, tl_0, tl_1, tl_2, tl_3, tl_4, tl_5, tl_6, tl_7, tl_8, tl_9, tl_10, tl_11, tl_12, tl_13, tl_14, tl_15, tl_16, tn_3, tn_5, tn_13, tn_21, tn_29, tn_33, tn_37, tn_41, tn_45, tn_49, tn_53, tn_57, tn_61, tn_40, tn_p, tn_0, true_and, and_true, sk_0, sk_1, sk_2, sl_2, sk_3, sl_3, sk_4, sl_4, sk_5, sl_5, sk_6, sl_6, sk_7, sl_7, sk_8, sl_8, sk_9, sl_9, sk_10, sl_10, sk_11, sl_11, sk_12, sl_12, sk_13, sk_14, sl_14, sk_15, sk_40, sk_41, sl_41, sk_330, sl_330, sk_355, sk_356, sl_356, sk_357, sl_357, sk_358, sl_358, sk_359, sl_359, sk_360, sl_360, sk_361, sk_362, sl_362, sk_363, sk_376, sk_377, sl_377, sk_378, sk_379, sl_379, sk_380, sl_380, sk_381, sl_381, sk_382, sl_382, sk_383, sl_383, sk_384, sl_384, sk_385, sl_385, sk_386, sl_386, sk_387, sl_387, sk_388, sl_388, sk_389, sl_389, sk_390, sl_390, sk_391, sl_391, sk_392, sl_392, sk_393, sl_393, sk_394, sl_394, sr_0_0, sr_0_1, sr_0_2, sr_0_3, sr_0_4, sr_0_5, sr_0_6, sr_0_7, sr_0_8, sr_0_9, sr_1_0, sr_1_1, sr_1_2, sr_13_0, sr_15_0, sr_15_2, sr_40_0, sr_355_0, sr_355_1, sr_355_2, sr_355_3, sr_355_4, sr_355_5, sr_361_2, sr_361_5, sr_361_6, sr_363_0, sr_363_1, sr_376_0, sr_376_2, sr_378_0, sr_378_1, sr_378_2, sr_378_4, sr_378_8, sr_378_10, sr_378_11, sr_378_12, sr_378_14, sr_378_20, sr_378_21, sr_378_22, sr_378_23, sr_378_24, sr_378_25, sr_378_26, am_vs, sx_k, sx_x, sx_w, sx_r, n1, n2, z0, zr_1, zs_1, hm, e, r10, HF, Nat.add_assoc]
  refine ⟨⟨by decide, Or.inl trivial⟩, by decide, ⟨by decide, Or.inl trivial⟩, by rw [show am_kd am_S0 (2 + 1) = 1 from sk_3]; decide, ⟨by decide, by decide⟩, by rw [show am_kd am_S0 (3 + 1) = 4 from sk_4]; decide, ?_⟩
  rw [show am_zs (dI E1) (3 + 1) (1 + 8) = dI E1 from zs_1]
  have HF' : am_sem (d + 1) 211 [.ref 2, .int (iI (-1))] (am_Sx 13 (sl + (8 + (8 + 328))) R) (dI E1) = some (none, am_Sx 13 (sl + 344) R, dI E0) := HF
  rw [HF']
  simp (disch := first | omega | simp only [am_ci, am_cr, am_ca]) only [eX6_init_40, am_bi, Int.reduceEq, Int.reduceLT, Int.reduceLE, Int.reduceToNat, ite_self, Decidable.not_not, not_true_eq_false, not_false_eq_true, ↓reduceIte, am_ci, am_cr, am_ca, am_b0, am_b1, am_ts, am_tn, am_then_some, List.cons_append, List.nil_append, ne_eq, iI_lit, iI_add, iI_sub, iI_mul, iI_neg, iI_lt, iI_le, iI_eq, iI_in, iI_clz, dI_ap, dI_wr, setR_s, wE_R, setR_2, setR_n, setR_o, updI_s, updI_n, updI_2, tl_0, tl_1, tl_2, tl_3, tl_4, tl_5, tl_6, tl_7, tl_8, tl_9, tl_10, tl_11, tl_12, tl_13, tl_14, tl_15, tl_16, tn_3, tn_5, tn_13, tn_21, tn_29, tn_33, tn_37, tn_41, tn_45, tn_49, tn_53, tn_57, tn_61, tn_40, tn_p, tn_0, true_and, and_true, sk_0, sk_1, sk_2, sl_2, sk_3, sl_3, sk_4, sl_4, sk_5, sl_5, sk_6, sl_6, sk_7, sl_7, sk_8, sl_8, sk_9, sl_9, sk_10, sl_10, sk_11, sl_11, sk_12, sl_12, sk_13, sk_14, sl_14, sk_15, sk_40, sk_41, sl_41, sk_330, sl_330, sk_355, sk_356, sl_356, sk_357, sl_357, sk_358, sl_358, sk_359, sl_359, sk_360, sl_360, sk_361, sk_362, sl_362, sk_363, sk_376, sk_377, sl_377, sk_378, sk_379, sl_379, sk_380, sl_380, sk_381, sl_381, sk_382, sl_382, sk_383, sl_383, sk_384, sl_384, sk_385, sl_385, sk_386, sl_386, sk_387, sl_387, sk_388, sl_388, sk_389, sl_389, sk_390, sl_390, sk_391, sl_391, sk_392, sl_392, sk_393, sl_393, sk_394, sl_394, sr_0_0, sr_0_1, sr_0_2, sr_0_3, sr_0_4, sr_0_5, sr_0_6, sr_0_7, sr_0_8, sr_0_9, sr_1_0, sr_1_1, sr_1_2, sr_13_0, sr_15_0, sr_15_2, sr_40_0, sr_355_0, sr_355_1, sr_355_2, sr_355_3, sr_355_4, sr_355_5, sr_361_2, sr_361_5, sr_361_6, sr_363_0, sr_363_1, sr_376_0, sr_376_2, sr_378_0, sr_378_1, sr_378_2, sr_378_4, sr_378_8, sr_378_10, sr_378_11, sr_378_12, sr_378_14, sr_378_20, sr_378_21, sr_378_22, sr_378_23, sr_378_24, sr_378_25, sr_378_26, am_vs]
