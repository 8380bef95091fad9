theorem shT_o (t : Nat → Int) (m : Int) {i : Nat} (hi : i < 37 ∨ (45 ≤ i ∧ i < 61)) : ∀ k, k ≤ 4 → (shT t m k).1 i = t i
  | 0, _ => rfl
  | k + 1, hk => by
    have ih := shT_o t m hi k (by omega)
    rw [shT_s]
    split
    · split
      · simp only
        rw [teT_o _ _ _ (by omega) (by omega), updI_n (by omega)]
        exact ih
      · simp only
        rw [updI_n (by omega)]
        exact ih
    · exact ih
theorem r_goes {d q : Nat} {c : Int} {E : Nat → Nat → Int} (hq : rQ q) (hb : bT (E q)) (hd : E q 3 < 150) (hc : c ≤ 80000) (hp : pB c 0 (E q)) : am_sem (d + 3) 166 [.ref q] am_S0 (dI E) = some (some (.int (iI (goT (E q)).2)), am_S0, dI (setR E q (goT (E q)).1)) := by
  refine mX10_goes rfl rfl ?_
  have c3 := hb.1 3
  simp (disch := first | omega | simp only [am_ci, am_cr, am_ca]) only [eX10_goes_0, eX10_goes_1, eX10_goes_2, eX10_goes_3, eX10_goes_4, eX10_goes_5, eX10_goes_6, eX10_goes_7, eX10_goes_8, eX10_goes_9, eX10_goes_10, am_bi, Int.reduceEq, Int.reduceLT, Int.reduceLE, Int.reduceToNat, ite_self, Decidable.not_not, not_true_eq_false, not_false_eq_true, ↓reduceIte, am_ci, am_cr, am_ca, am_b0, am_b1, am_ts, am_tn, am_then_some, List.cons_append, List.nil_append, ne_eq, iI_lit, iI_add, iI_sub, iI_mul, iI_neg, iI_lt, iI_le, iI_eq, iI_in, iI_clz, dI_ap, dI_wr, setR_s, wE_R, setR_2, setR_n, setR_o, updI_s, updI_n, updI_2, tl_0, tl_1, tl_2, tl_3, tl_4, tl_5, tl_6, tl_7, tl_8, tl_9, tl_10, tl_11, tl_12, tl_13, tl_14, tl_15, tl_16, tn_3, tn_5, tn_13, tn_21, tn_29, tn_33, tn_37, tn_41, tn_45, tn_49, tn_53, tn_57, tn_61, tn_40, tn_p, tn_0, true_and, and_true, hq.1, hq.2]
  have ht := bT_day hb hd
  have hpT : pB c 0 (updI (E q) 3 (E q 3 + 1)) := fun s hs => by rw [updI_n (by omega)]; exact hp s hs
  unfold goT
  have eT1 : updI (E q) 3 (E q 3 + 1) 1 = E q 1 := updI_n (by omega)
  have eT2 : updI (E q) 3 (E q 3 + 1) 2 = E q 2 := updI_n (by omega)
  generalize updI (E q) 3 (E q 3 + 1) = T at ht hpT eT1 eT2 ⊢
  have a1 := ht.2.2.1
  have a2 := ht.2.2.2.1
  rw [← eT1, ← eT2]
  generalize hA : waT T (T 1).toNat = A
  have hA1 : bT A.1 := by rw [← hA]; exact waT_b ht _
  have hA2 : 0 ≤ A.2 ∧ A.2 ≤ 64 := by
    have := waT_2 T (T 1).toNat
    rw [hA] at this
    omega
  have hAp : pB c 0 A.1 := fun s hs => by rw [← hA, waT_o T (by omega)]; exact hpT s hs
  have hA3 : A.1 2 = T 2 := by rw [← hA, waT_o T (by omega)]
  refine am_loop (P := fun k => am_ev (am_sem (d + 2)) 10 cX10_goes 11 [.ref q, .int (iI (waT T k).2), .int (iI k)] [] am_S0 (dI (setR E q (waT T k).1)) (some (.int (iI (shT A.1 A.2 (T 2).toNat).2)), am_S0, dI (setR E q (leT (shT A.1 A.2 (T 2).toNat).1 (T 2).toNat)))) (n := (T 1).toNat) ?_ ?_ (k := 0) (by omega)
  · intro k hk ih
    have hk8 : k < 8 := by omega
    have hu := waT_b ht k
    have e1 : (waT T k).1 1 = T 1 := waT_o T (by omega) k
    have e5 : (waT T k).1 (5 + k) = T (5 + k) := waT_o T (by omega) k
    have e13 : (waT T k).1 (13 + k) = T (13 + k) := waT_o T (by omega) k
    have e21 : (waT T k).1 (21 + k) = T (21 + k) := waT_o T (by omega) k
    obtain ⟨w5, w13, w21⟩ := ht.2.2.2.2.2.2.1 k hk8
    rw [waT_s] at ih
    have m1 := waT_2 T k
    obtain ⟨a, ha⟩ := Int.eq_ofNat_of_zero_le w5.1
    obtain ⟨b, hb2⟩ := Int.eq_ofNat_of_zero_le w13.1
    rw [ha, hb2, show ((a : Int)).toNat = a from rfl, show ((b : Int)).toNat = b from rfl] at ih
    have m2 := heT_2 4 (p := a) (f := b) (L := T (21 + k)) (t := (waT T k).1)
    have o5 := heT_o a b (T (21 + k)) (waT T k).1 (i := 5 + k) (by omega) 4
    have o13 := heT_o a b (T (21 + k)) (waT T k).1 (i := 13 + k) (by omega) 4
    have o21 := heT_o a b (T (21 + k)) (waT T k).1 (i := 21 + k) (by omega) 4
    have m3 := heT_2 4 (p := b) (f := a) (L := T (21 + k)) (t := (heT a b (T (21 + k)) (waT T k).1 4).1)
    have H1 := r_hears (d := d + 1) (q := q) (p := a) (f := b) (L := T (21 + k)) (E := setR E q (waT T k).1) (by rw [setR_s]; exact hu.1) hq (by omega) (by omega) w21
    have hv := bT_he hu a b (T (21 + k)) 4
    have H2 := r_hears (d := d + 1) (q := q) (p := b) (f := a) (L := T (21 + k)) (E := setR E q (heT a b (T (21 + k)) (waT T k).1 4).1) (by rw [setR_s]; exact hv.1) hq (by omega) (by omega) w21
    rw [setR_s, setR_2] at H1 H2
    rw [eX10_goes_11]
    simp (disch := first | omega | simp only [am_ci, am_cr, am_ca]) only [eX10_goes_0, eX10_goes_1, eX10_goes_2, eX10_goes_3, eX10_goes_4, eX10_goes_5, eX10_goes_6, eX10_goes_7, eX10_goes_8, eX10_goes_9, eX10_goes_10, eX10_goes_12, eX10_goes_13, eX10_goes_14, eX10_goes_15, eX10_goes_18, eX10_goes_19, eX10_goes_20, eX10_goes_21, eX10_goes_22, eX10_goes_23, eX10_goes_24, eX10_goes_25, eX10_goes_26, eX10_goes_28, eX10_goes_29, eX10_goes_30, eX10_goes_31, eX10_goes_32, eX10_goes_34, eX10_goes_35, eX10_goes_36, eX10_goes_37, eX10_goes_40, eX10_goes_41, eX10_goes_42, eX10_goes_43, eX10_goes_44, eX10_goes_45, eX10_goes_47, eX10_goes_48, eX10_goes_49, eX10_goes_50, eX10_goes_51, eX10_goes_52, eX10_goes_53, eX10_goes_54, eX10_goes_55, eX10_goes_56, eX10_goes_58, eX10_goes_59, eX10_goes_60, eX10_goes_61, eX10_goes_64, eX10_goes_65, eX10_goes_66, eX10_goes_69, eX10_goes_72, eX10_goes_73, eX10_goes_75, eX10_goes_76, eX10_goes_77, eX10_goes_78, eX10_goes_81, eX10_goes_82, eX10_goes_84, eX10_goes_85, eX10_goes_86, eX10_goes_87, eX10_goes_88, eX10_goes_89, eX10_goes_90, eX10_goes_93, eX10_goes_94, eX10_goes_96, eX10_goes_97, eX10_goes_98, eX10_goes_99, eX10_goes_100, eX10_goes_101, eX10_goes_102, eX10_goes_104, eX10_goes_105, eX10_goes_106, eX10_goes_107, eX10_goes_110, eX10_goes_111, eX10_goes_112, eX10_goes_115, eX10_goes_118, eX10_goes_119, eX10_goes_120, eX10_goes_121, eX10_goes_124, eX10_goes_127, eX10_goes_128, eX10_goes_131, eX10_goes_132, am_bi, Int.reduceEq, Int.reduceLT, Int.reduceLE, Int.reduceToNat, ite_self, Decidable.not_not, not_true_eq_false, not_false_eq_true, ↓reduceIte, am_ci, am_cr, am_ca, am_b0, am_b1, am_ts, am_tn, am_then_some, List.cons_append, List.nil_append, ne_eq, iI_lit, iI_add, iI_sub, iI_mul, iI_neg, iI_lt, iI_le, iI_eq, iI_in, iI_clz, dI_ap, dI_wr, setR_s, wE_R, setR_2, setR_n, setR_o, updI_s, updI_n, updI_2, tl_0, tl_1, tl_2, tl_3, tl_4, tl_5, tl_6, tl_7, tl_8, tl_9, tl_10, tl_11, tl_12, tl_13, tl_14, tl_15, tl_16, tn_3, tn_5, tn_13, tn_21, tn_29, tn_33, tn_37, tn_41, tn_45, tn_49, tn_53, tn_57, tn_61, tn_40, tn_p, tn_0, true_and, and_true, hq.1, hq.2, e1, e5, e13, e21, ha, hb2, H1, o5, o13, o21, H2]
    rw [if_neg (by omega)]
    exact ih
  · rw [hA]
    have e1 : A.1 1 = T 1 := by rw [← hA, waT_o T (by omega)]
    rw [eX10_goes_11]
    simp (disch := first | omega | simp only [am_ci, am_cr, am_ca]) only [eX10_goes_12, eX10_goes_13, eX10_goes_14, eX10_goes_15, eX10_goes_18, eX10_goes_19, eX10_goes_20, eX10_goes_21, eX10_goes_22, eX10_goes_23, eX10_goes_24, eX10_goes_25, eX10_goes_26, eX10_goes_28, eX10_goes_29, eX10_goes_30, eX10_goes_31, eX10_goes_32, eX10_goes_34, eX10_goes_35, eX10_goes_36, eX10_goes_37, eX10_goes_40, eX10_goes_41, eX10_goes_42, eX10_goes_43, eX10_goes_44, eX10_goes_45, eX10_goes_47, eX10_goes_48, eX10_goes_49, eX10_goes_50, eX10_goes_51, eX10_goes_52, eX10_goes_53, eX10_goes_54, eX10_goes_55, eX10_goes_56, eX10_goes_58, eX10_goes_59, eX10_goes_60, eX10_goes_61, eX10_goes_64, eX10_goes_65, eX10_goes_66, eX10_goes_69, eX10_goes_72, eX10_goes_73, am_bi, Int.reduceEq, Int.reduceLT, Int.reduceLE, Int.reduceToNat, ite_self, Decidable.not_not, not_true_eq_false, not_false_eq_true, ↓reduceIte, am_ci, am_cr, am_ca, am_b0, am_b1, am_ts, am_tn, am_then_some, List.cons_append, List.nil_append, ne_eq, iI_lit, iI_add, iI_sub, iI_mul, iI_neg, iI_lt, iI_le, iI_eq, iI_in, iI_clz, dI_ap, dI_wr, setR_s, wE_R, setR_2, setR_n, setR_o, updI_s, updI_n, updI_2, tl_0, tl_1, tl_2, tl_3, tl_4, tl_5, tl_6, tl_7, tl_8, tl_9, tl_10, tl_11, tl_12, tl_13, tl_14, tl_15, tl_16, tn_3, tn_5, tn_13, tn_21, tn_29, tn_33, tn_37, tn_41, tn_45, tn_49, tn_53, tn_57, tn_61, tn_40, tn_p, tn_0, true_and, and_true, hq.1, hq.2, e1]
    rw [if_pos (by omega)]
    refine am_loop (P := fun k => am_ev (am_sem (d + 2)) 10 cX10_goes 74 [.ref q, .int (iI (shT A.1 A.2 k).2), .int (iI k)] [] am_S0 (dI (setR E q (shT A.1 A.2 k).1)) (some (.int (iI (shT A.1 A.2 (T 2).toNat).2)), am_S0, dI (setR E q (leT (shT A.1 A.2 (T 2).toNat).1 (T 2).toNat)))) (n := (T 2).toNat) ?_ ?_ (k := 0) (by omega)
    · intro k hk ih
      have hk4 : k < 4 := by omega
      obtain ⟨hu, hup⟩ := shT_b (m := A.2) hA1 hc hAp k (by omega)
      have hupk := hup k hk4
      rw [if_neg (by omega)] at hupk
      have e2 : (shT A.1 A.2 k).1 2 = T 2 := by rw [shT_o A.1 A.2 (by omega) k (by omega)]; exact hA3
      have m1 := shT_2 A.1 A.2 k
      rw [shT_s] at ih
      generalize shT A.1 A.2 k = U at *
      have hv := bT_due hu hk4
      have H1 := r_tells (d := d + 1) (q := q) (s := k) (E := setR E q (updI U.1 (37 + k) 0)) (by rw [setR_s]; exact hv.1) hq hk4 (by rw [setR_s]; exact fun n hn => (hv.2.2.2.2.2.2.2.2.1 n hn).2) (by rw [setR_s, updI_n (by omega)]; omega) (by rw [setR_s]; exact (hv.2.2.2.2.2.2.2.1 k hk4).2.1) (by rw [setR_s]; exact (hv.2.2.2.2.2.2.2.1 k hk4).2.2.2)
      rw [setR_s, setR_2, updI_n (show 33 + k ≠ 37 + k by omega)] at H1
      have m2 := teT_2 k (U.1 (33 + k)).toNat (updI U.1 (37 + k) 0) 4
      have n49 : updI U.1 (37 + k) 0 (49 + k) = U.1 (49 + k) := updI_n (by omega)
      have b37 := hu.1 (37 + k)
      have b3 := hu.1 3
      have b49 := hu.1 (49 + k)
      rw [eX10_goes_74]
      simp (disch := first | omega | simp only [am_ci, am_cr, am_ca]) only [eX10_goes_0, eX10_goes_1, eX10_goes_2, eX10_goes_3, eX10_goes_4, eX10_goes_5, eX10_goes_6, eX10_goes_7, eX10_goes_8, eX10_goes_9, eX10_goes_10, eX10_goes_12, eX10_goes_13, eX10_goes_14, eX10_goes_15, eX10_goes_18, eX10_goes_19, eX10_goes_20, eX10_goes_21, eX10_goes_22, eX10_goes_23, eX10_goes_24, eX10_goes_25, eX10_goes_26, eX10_goes_28, eX10_goes_29, eX10_goes_30, eX10_goes_31, eX10_goes_32, eX10_goes_34, eX10_goes_35, eX10_goes_36, eX10_goes_37, eX10_goes_40, eX10_goes_41, eX10_goes_42, eX10_goes_43, eX10_goes_44, eX10_goes_45, eX10_goes_47, eX10_goes_48, eX10_goes_49, eX10_goes_50, eX10_goes_51, eX10_goes_52, eX10_goes_53, eX10_goes_54, eX10_goes_55, eX10_goes_56, eX10_goes_58, eX10_goes_59, eX10_goes_60, eX10_goes_61, eX10_goes_64, eX10_goes_65, eX10_goes_66, eX10_goes_69, eX10_goes_72, eX10_goes_73, eX10_goes_75, eX10_goes_76, eX10_goes_77, eX10_goes_78, eX10_goes_81, eX10_goes_82, eX10_goes_84, eX10_goes_85, eX10_goes_86, eX10_goes_87, eX10_goes_88, eX10_goes_89, eX10_goes_90, eX10_goes_93, eX10_goes_94, eX10_goes_96, eX10_goes_97, eX10_goes_98, eX10_goes_99, eX10_goes_100, eX10_goes_101, eX10_goes_102, eX10_goes_104, eX10_goes_105, eX10_goes_106, eX10_goes_107, eX10_goes_110, eX10_goes_111, eX10_goes_112, eX10_goes_115, eX10_goes_118, eX10_goes_119, eX10_goes_120, eX10_goes_121, eX10_goes_124, eX10_goes_127, eX10_goes_128, eX10_goes_131, eX10_goes_132, am_bi, Int.reduceEq, Int.reduceLT, Int.reduceLE, Int.reduceToNat, ite_self, Decidable.not_not, not_true_eq_false, not_false_eq_true, ↓reduceIte, am_ci, am_cr, am_ca, am_b0, am_b1, am_ts, am_tn, am_then_some, List.cons_append, List.nil_append, ne_eq, iI_lit, iI_add, iI_sub, iI_mul, iI_neg, iI_lt, iI_le, iI_eq, iI_in, iI_clz, dI_ap, dI_wr, setR_s, wE_R, setR_2, setR_n, setR_o, updI_s, updI_n, updI_2, tl_0, tl_1, tl_2, tl_3, tl_4, tl_5, tl_6, tl_7, tl_8, tl_9, tl_10, tl_11, tl_12, tl_13, tl_14, tl_15, tl_16, tn_3, tn_5, tn_13, tn_21, tn_29, tn_33, tn_37, tn_41, tn_45, tn_49, tn_53, tn_57, tn_61, tn_40, tn_p, tn_0, true_and, and_true, hq.1, hq.2, e2, n49, H1]
      rw [if_neg (by omega)]
      by_cases h1 : U.1 (37 + k) = U.1 3
      · rw [if_pos h1] at ih
        rw [if_neg (by omega)]
        by_cases h2 : U.1 (49 + k) = 0
        · rw [if_pos h2] at ih
          rw [if_neg (by omega)]
          exact ih
        · rw [if_neg h2] at ih
          rw [if_pos h2]
          simp only [Int.add_zero]
          exact ih
      · rw [if_neg h1] at ih
        rw [if_pos h1]
        exact ih
    · obtain ⟨hu, hup⟩ := shT_b (m := A.2) hA1 hc hAp (T 2).toNat (by omega)
      have e2 : (shT A.1 A.2 (T 2).toNat).1 2 = T 2 := by rw [shT_o A.1 A.2 (by omega) _ (by omega)]; exact hA3
      generalize shT A.1 A.2 (T 2).toNat = U at *
      have H1 := r_learns (d := d) (q := q) (E := setR E q U.1) (by rw [setR_s]; exact hu.1) hq (by rw [setR_s, e2]; exact a2) (by rw [setR_s]; exact fun s hs => (hu.2.2.2.2.2.2.2.1 s hs).2.1) (by rw [setR_s]; exact fun s hs => (hu.2.2.2.2.2.2.2.1 s hs).2.2.2)
      rw [setR_s, setR_2, e2] at H1
      rw [eX10_goes_74]
      simp (disch := first | omega | simp only [am_ci, am_cr, am_ca]) only [eX10_goes_0, eX10_goes_1, eX10_goes_2, eX10_goes_3, eX10_goes_4, eX10_goes_5, eX10_goes_6, eX10_goes_7, eX10_goes_8, eX10_goes_9, eX10_goes_10, eX10_goes_12, eX10_goes_13, eX10_goes_14, eX10_goes_15, eX10_goes_18, eX10_goes_19, eX10_goes_20, eX10_goes_21, eX10_goes_22, eX10_goes_23, eX10_goes_24, eX10_goes_25, eX10_goes_26, eX10_goes_28, eX10_goes_29, eX10_goes_30, eX10_goes_31, eX10_goes_32, eX10_goes_34, eX10_goes_35, eX10_goes_36, eX10_goes_37, eX10_goes_40, eX10_goes_41, eX10_goes_42, eX10_goes_43, eX10_goes_44, eX10_goes_45, eX10_goes_47, eX10_goes_48, eX10_goes_49, eX10_goes_50, eX10_goes_51, eX10_goes_52, eX10_goes_53, eX10_goes_54, eX10_goes_55, eX10_goes_56, eX10_goes_58, eX10_goes_59, eX10_goes_60, eX10_goes_61, eX10_goes_64, eX10_goes_65, eX10_goes_66, eX10_goes_69, eX10_goes_72, eX10_goes_73, eX10_goes_75, eX10_goes_76, eX10_goes_77, eX10_goes_78, eX10_goes_81, eX10_goes_82, eX10_goes_84, eX10_goes_85, eX10_goes_86, eX10_goes_87, eX10_goes_88, eX10_goes_89, eX10_goes_90, eX10_goes_93, eX10_goes_94, eX10_goes_96, eX10_goes_97, eX10_goes_98, eX10_goes_99, eX10_goes_100, eX10_goes_101, eX10_goes_102, eX10_goes_104, eX10_goes_105, eX10_goes_106, eX10_goes_107, eX10_goes_110, eX10_goes_111, eX10_goes_112, eX10_goes_115, eX10_goes_118, eX10_goes_119, eX10_goes_120, eX10_goes_121, eX10_goes_124, eX10_goes_127, eX10_goes_128, eX10_goes_131, eX10_goes_132, am_bi, Int.reduceEq, Int.reduceLT, Int.reduceLE, Int.reduceToNat, ite_self, Decidable.not_not, not_true_eq_false, not_false_eq_true, ↓reduceIte, am_ci, am_cr, am_ca, am_b0, am_b1, am_ts, am_tn, am_then_some, List.cons_append, List.nil_append, ne_eq, iI_lit, iI_add, iI_sub, iI_mul, iI_neg, iI_lt, iI_le, iI_eq, iI_in, iI_clz, dI_ap, dI_wr, setR_s, wE_R, setR_2, setR_n, setR_o, updI_s, updI_n, updI_2, tl_0, tl_1, tl_2, tl_3, tl_4, tl_5, tl_6, tl_7, tl_8, tl_9, tl_10, tl_11, tl_12, tl_13, tl_14, tl_15, tl_16, tn_3, tn_5, tn_13, tn_21, tn_29, tn_33, tn_37, tn_41, tn_45, tn_49, tn_53, tn_57, tn_61, tn_40, tn_p, tn_0, true_and, and_true, hq.1, hq.2, e2, H1]
      rw [if_pos (by omega)]
      trivial
