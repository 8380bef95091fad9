/-! ===== a league is made ===== -/
def lgP (R : Nat → Nat → Option Nat) (a : Nat) : Nat → Nat → Option Nat := fun b i => if b = a ∧ 5 ≤ i ∧ i < 16 then some (a + (i - 4)) else if a < b ∧ b < a + 12 then none else R b i
theorem i_league {d a sl : Nat} {R : Nat → Nat → Option Nat} (h : am_lg a) (ha : 2 < a ∧ a + 11 < 380) : am_sem (d + 1) 30 [.ref a] (am_Sx (a + 1) sl R) (dI E0) = some (none, am_Sx (a + 12) (sl + 76) (lgP R a), dI E0) := by
  have n1 := fun sl R => sx_n (sl := sl) (R := R) h.k1 h.l1
  have n2 := fun sl R => sx_n (sl := sl) (R := R) h.k2 h.l2
  have n3 := fun sl R => sx_n (sl := sl) (R := R) h.k3 h.l3
  have n4 := fun sl R => sx_n (sl := sl) (R := R) h.k4 h.l4
  have n5 := fun sl R => sx_n (sl := sl) (R := R) h.k5 h.l5
  have n6 := fun sl R => sx_n (sl := sl) (R := R) h.k6 h.l6
  have n7 := fun sl R => sx_n (sl := sl) (R := R) h.k7 h.l7
  have n8 := fun sl R => sx_n (sl := sl) (R := R) h.k8 h.l8
  have n9 := fun sl R => sx_n (sl := sl) (R := R) h.k9 h.l9
  have n10 := fun sl R => sx_n (sl := sl) (R := R) h.k10 h.l10
  have n11 := fun sl R => sx_n (sl := sl) (R := R) h.k11 h.l11
  refine mX3_init rfl rfl ?_
  simp (disch := first | omega | simp only [am_ci, am_cr, am_ca]) only [eX3_init_0, eX3_init_1, eX3_init_4, eX3_init_5, eX3_init_7, eX3_init_9, eX3_init_12, eX3_init_13, eX3_init_15, eX3_init_17, eX3_init_20, eX3_init_21, eX3_init_23, eX3_init_25, eX3_init_28, eX3_init_29, eX3_init_30, eX3_init_32, eX3_init_35, eX3_init_36, eX3_init_37, eX3_init_39, eX3_init_42, eX3_init_43, eX3_init_44, eX3_init_46, eX3_init_49, eX3_init_50, eX3_init_51, eX3_init_53, eX3_init_56, eX3_init_57, eX3_init_58, eX3_init_60, eX3_init_63, eX3_init_64, eX3_init_65, eX3_init_67, eX3_init_70, eX3_init_71, eX3_init_72, eX3_init_74, eX3_init_77, eX3_init_78, eX3_init_80, eX3_init_82, eX3_init_85, am_bi, Int.reduceEq, Int.reduceLT, Int.reduceLE, Int.reduceToNat, ite_self, Decidable.not_not, not_true_eq_false, not_false_eq_true, ↓reduceIte, am_ci, am_cr, am_ca, am_b0, am_b1, am_ts, am_tn, am_then_some, List.cons_append, List.nil_append, ne_eq, iI_lit, iI_add, iI_sub, iI_mul, iI_neg, iI_lt, iI_le, iI_eq, iI_in, iI_clz, dI_ap, dI_wr, setR_s, wE_R, setR_2, setR_n, setR_o, updI_s, updI_n, updI_2, tl_0, tl_1, tl_2, tl_3, tl_4, tl_5, tl_6, tl_7, tl_8, tl_9, tl_10, tl_11, tl_12, tl_13, tl_14, tl_15, tl_16, tn_3, tn_5, tn_13, tn_21, tn_29, tn_33, tn_37, tn_41, tn_45, tn_49, tn_53, tn_57, tn_61, tn_40, tn_p, tn_0, true_and, and_true, sk_0, sk_1, sk_2, sl_2, sk_3, sl_3, sk_4, sl_4, sk_5, sl_5, sk_6, sl_6, sk_7, sl_7, sk_8, sl_8, sk_9, sl_9, sk_10, sl_10, sk_11, sl_11, sk_12, sl_12, sk_13, sk_14, sl_14, sk_15, sk_40, sk_41, sl_41, sk_330, sl_330, sk_355, sk_356, sl_356, sk_357, sl_357, sk_358, sl_358, sk_359, sl_359, sk_360, sl_360, sk_361, sk_362, sl_362, sk_363, sk_376, sk_377, sl_377, sk_378, sk_379, sl_379, sk_380, sl_380, sk_381, sl_381, sk_382, sl_382, sk_383, sl_383, sk_384, sl_384, sk_385, sl_385, sk_386, sl_386, sk_387, sl_387, sk_388, sl_388, sk_389, sl_389, sk_390, sl_390, sk_391, sl_391, sk_392, sl_392, sk_393, sl_393, sk_394, sl_394, sr_0_0, sr_0_1, sr_0_2, sr_0_3, sr_0_4, sr_0_5, sr_0_6, sr_0_7, sr_0_8, sr_0_9, sr_1_0, sr_1_1, sr_1_2, sr_13_0, sr_15_0, sr_15_2, sr_40_0, sr_355_0, sr_355_1, sr_355_2, sr_355_3, sr_355_4, sr_355_5, sr_361_2, sr_361_5, sr_361_6, sr_363_0, sr_363_1, sr_376_0, sr_376_2, sr_378_0, sr_378_1, sr_378_2, sr_378_4, sr_378_8, sr_378_10, sr_378_11, sr_378_12, sr_378_14, sr_378_20, sr_378_21, sr_378_22, sr_378_23, sr_378_24, sr_378_25, sr_378_26, am_vs, sx_k, sx_x, sx_w, h.k, h.k1, h.k2, h.k3, h.k4, h.k5, h.k6, h.k7, h.k8, h.k9, h.k10, h.k11, n1, n2, n3, n4, n5, n6, n7, n8, n9, n10, n11, zr_0, Nat.add_assoc]
  repeat (refine ⟨⟨by decide, Or.inl trivial⟩, by decide, ?_⟩)
  refine congrArg (fun r => ((none : Option Value), am_Sx (a + 12) (sl + 76) r, dI E0)) (funext fun b => funext fun i => ?_)
  unfold lgP
  by_cases e : b = a
  · subst e
    simp only [rfP, rfC, true_and, Nat.left_eq_add, Nat.reduceEqDiff, if_false, Nat.reduceAdd, Nat.lt_irrefl, false_and]
    by_cases c : 5 ≤ i ∧ i < 16
    · rw [if_pos c]
      have : i = 5 ∨ i = 6 ∨ i = 7 ∨ i = 8 ∨ i = 9 ∨ i = 10 ∨ i = 11 ∨ i = 12 ∨ i = 13 ∨ i = 14 ∨ i = 15 := by omega
      rcases this with rfl | rfl | rfl | rfl | rfl | rfl | rfl | rfl | rfl | rfl | rfl <;> rfl
    · rw [if_neg c]
      (repeat' split) <;> first | rfl | (exfalso; omega)
  · simp only [rfP, rfC, e, false_and, if_false]
    (repeat' split) <;> first | rfl | (exfalso; omega)
