/-! ===== the reference: small static methods ===== -/
theorem r_in {d : Nat} {S : am_S} {D : am_D} {x y z : Int64} : am_sem (d + 1) 135 [.long x, .long y, .long z] S D = some (some (.int (if ¬ x < y ∧ ¬ z < x then 1 else 0)), S, D) := by
  refine mX10_in rfl rfl am_bb ?_
  simp only [eX10_in_0, eX10_in_1, eX10_in_2, eX10_in_3, eX10_in_6, eX10_in_7, eX10_in_9, eX10_in_10, eX10_in_13, eX10_in_14, eX10_in_17, eX10_in_18, am_bi, Int.reduceEq, Int.reduceLT, Int.reduceLE, Int.reduceToNat, ite_self, Decidable.not_not, not_true_eq_false, not_false_eq_true, ↓reduceIte, am_ci, am_cr, am_ca, am_b0, am_b1, am_ts, am_tn, am_then_some, List.cons_append, List.nil_append, am_L, am_G]
  (repeat' split) <;> simp_all
/-- which news a port knows, the first k of them -/
def knT (t : Nat → Int) (p : Nat) : Nat → Nat
  | 0 => 0
  | k + 1 => knT t p k ||| (if t (61 + 4 * p + k) < 0 then 0 else 2 ^ k)
theorem knT_s (t : Nat → Int) (p k : Nat) : knT t p (k + 1) = knT t p k ||| (if t (61 + 4 * p + k) < 0 then 0 else 2 ^ k) := rfl
/-- a row of the reference's league -/
def rQ (q : Nat) : Prop := am_kd am_S0 q = 1 ∧ am_ln am_S0 q = 85
theorem r_knownIn {d q p : Nat} {E : Nat → Nat → Int} (hE : tC (E q)) (hq : rQ q) (hp : p < 6) : am_sem (d + 1) 158 [.ref q, .int (iI p)] am_S0 (dI E) = some (some (.int (iI (knT (E q) p 4))), am_S0, dI E) := by
  refine mX10_knownIn rfl rfl ?_
  simp (disch := first | omega | simp only [am_ci, am_cr, am_ca]) only [eX10_knownIn_0, eX10_knownIn_1, eX10_knownIn_2, eX10_knownIn_3, am_bi, Int.reduceEq, Int.reduceLT, Int.reduceLE, Int.reduceToNat, ite_self, Decidable.not_not, not_true_eq_false, not_false_eq_true, ↓reduceIte, am_ci, am_cr, am_ca, am_b0, am_b1, am_ts, am_tn, am_then_some, List.cons_append, List.nil_append, ne_eq, iI_lit, iI_add, iI_sub, iI_mul, iI_neg, iI_lt, iI_le, iI_eq, iI_in, iI_clz, dI_ap, dI_wr, setR_s, wE_R, setR_2, setR_n, setR_o, updI_s, updI_n, updI_2, tl_0, tl_1, tl_2, tl_3, tl_4, tl_5, tl_6, tl_7, tl_8, tl_9, tl_10, tl_11, tl_12, tl_13, tl_14, tl_15, tl_16, tn_3, tn_5, tn_13, tn_21, tn_29, tn_33, tn_37, tn_41, tn_45, tn_49, tn_53, tn_57, tn_61, tn_40, tn_p, tn_0, true_and, and_true]
  refine am_loop (P := fun k => am_ev (am_sem d) 10 cX10_knownIn 4 [.ref q, .int (iI p), .int (iI (knT (E q) p k)), .int (iI k)] [] am_S0 (dI E) (some (.int (iI (knT (E q) p 4))), am_S0, dI E)) (n := 4) ?_ ?_ (k := 0) (by omega)
  · intro k hk4 ih
    have b1 := hE (61 + 4 * p + k)
    rw [eX10_knownIn_4]
    simp (disch := first | omega | simp only [am_ci, am_cr, am_ca]) only [eX10_knownIn_0, eX10_knownIn_1, eX10_knownIn_2, eX10_knownIn_3, eX10_knownIn_5, eX10_knownIn_6, eX10_knownIn_9, eX10_knownIn_10, eX10_knownIn_11, eX10_knownIn_13, eX10_knownIn_14, eX10_knownIn_15, eX10_knownIn_16, eX10_knownIn_17, eX10_knownIn_18, eX10_knownIn_19, eX10_knownIn_20, eX10_knownIn_23, eX10_knownIn_24, eX10_knownIn_25, eX10_knownIn_26, eX10_knownIn_29, eX10_knownIn_30, eX10_knownIn_31, eX10_knownIn_32, eX10_knownIn_35, eX10_knownIn_38, eX10_knownIn_39, am_bi, Int.reduceEq, Int.reduceLT, Int.reduceLE, Int.reduceToNat, ite_self, Decidable.not_not, not_true_eq_false, not_false_eq_true, ↓reduceIte, am_ci, am_cr, am_ca, am_b0, am_b1, am_ts, am_tn, am_then_some, List.cons_append, List.nil_append, ne_eq, iI_lit, iI_add, iI_sub, iI_mul, iI_neg, iI_lt, iI_le, iI_eq, iI_in, iI_clz, dI_ap, dI_wr, setR_s, wE_R, setR_2, setR_n, setR_o, updI_s, updI_n, updI_2, tl_0, tl_1, tl_2, tl_3, tl_4, tl_5, tl_6, tl_7, tl_8, tl_9, tl_10, tl_11, tl_12, tl_13, tl_14, tl_15, tl_16, tn_3, tn_5, tn_13, tn_21, tn_29, tn_33, tn_37, tn_41, tn_45, tn_49, tn_53, tn_57, tn_61, tn_40, tn_p, tn_0, true_and, and_true, hq.1, hq.2, iI_shl, iI_or, iI_or0]
    rw [if_neg (by omega)]
    rw [knT_s (E q) p k] at ih
    split
    · rename_i h
      rw [if_pos h, Nat.or_zero] at ih
      exact ih
    · rename_i h
      rw [if_neg h] at ih
      exact ih
  · rw [eX10_knownIn_4]
    simp (disch := first | omega | simp only [am_ci, am_cr, am_ca]) only [eX10_knownIn_0, eX10_knownIn_1, eX10_knownIn_2, eX10_knownIn_3, eX10_knownIn_5, eX10_knownIn_6, eX10_knownIn_9, eX10_knownIn_10, eX10_knownIn_11, eX10_knownIn_13, eX10_knownIn_14, eX10_knownIn_15, eX10_knownIn_16, eX10_knownIn_17, eX10_knownIn_18, eX10_knownIn_19, eX10_knownIn_20, eX10_knownIn_23, eX10_knownIn_24, eX10_knownIn_25, eX10_knownIn_26, eX10_knownIn_29, eX10_knownIn_30, eX10_knownIn_31, eX10_knownIn_32, eX10_knownIn_35, eX10_knownIn_38, eX10_knownIn_39, am_bi, Int.reduceEq, Int.reduceLT, Int.reduceLE, Int.reduceToNat, ite_self, Decidable.not_not, not_true_eq_false, not_false_eq_true, ↓reduceIte, am_ci, am_cr, am_ca, am_b0, am_b1, am_ts, am_tn, am_then_some, List.cons_append, List.nil_append, ne_eq, iI_lit, iI_add, iI_sub, iI_mul, iI_neg, iI_lt, iI_le, iI_eq, iI_in, iI_clz, dI_ap, dI_wr, setR_s, wE_R, setR_2, setR_n, setR_o, updI_s, updI_n, updI_2, tl_0, tl_1, tl_2, tl_3, tl_4, tl_5, tl_6, tl_7, tl_8, tl_9, tl_10, tl_11, tl_12, tl_13, tl_14, tl_15, tl_16, tn_3, tn_5, tn_13, tn_21, tn_29, tn_33, tn_37, tn_41, tn_45, tn_49, tn_53, tn_57, tn_61, tn_40, tn_p, tn_0, true_and, and_true]
    rw [if_pos (by omega)]
    trivial
/-- a port hears of what another has known for long enough -/
def heT (p f : Nat) (L : Int) (t : Nat → Int) : Nat → (Nat → Int) × Int
  | 0 => (t, 0)
  | k + 1 => if (heT p f L t k).1 (61 + 4 * p + k) < 0 ∧ ¬ (heT p f L t k).1 (61 + 4 * f + k) < 0 ∧ ¬ (heT p f L t k).1 3 - (heT p f L t k).1 (61 + 4 * f + k) < 3 * L then (updI (heT p f L t k).1 (61 + 4 * p + k) ((heT p f L t k).1 3), (heT p f L t k).2 + 1) else heT p f L t k
theorem heT_s (p f : Nat) (L : Int) (t : Nat → Int) (k : Nat) : heT p f L t (k + 1) = if (heT p f L t k).1 (61 + 4 * p + k) < 0 ∧ ¬ (heT p f L t k).1 (61 + 4 * f + k) < 0 ∧ ¬ (heT p f L t k).1 3 - (heT p f L t k).1 (61 + 4 * f + k) < 3 * L then (updI (heT p f L t k).1 (61 + 4 * p + k) ((heT p f L t k).1 3), (heT p f L t k).2 + 1) else heT p f L t k := rfl
theorem tC_upd {t : Nat → Int} {k : Nat} {z : Int} (h : tC t) (hz : -1 ≤ z ∧ z ≤ 100000) : tC (updI t k z) := by
  intro i
  unfold updI
  split
  · exact hz
  · exact h i
theorem heT_C {p f : Nat} {L : Int} {t : Nat → Int} (h : tC t) : ∀ k, tC (heT p f L t k).1
  | 0 => h
  | k + 1 => by
    have ih := heT_C h k (p := p) (f := f) (L := L)
    unfold heT
    split
    · exact tC_upd ih (ih 3)
    · exact ih
theorem heT_2 {p f : Nat} {L : Int} {t : Nat → Int} : ∀ k, 0 ≤ (heT p f L t k).2 ∧ (heT p f L t k).2 ≤ k
  | 0 => by simp [heT]
  | k + 1 => by
    have ih := heT_2 k (p := p) (f := f) (L := L) (t := t)
    unfold heT
    split
    · simp only; omega
    · omega
theorem r_hears {d q p f : Nat} {L : Int} {E : Nat → Nat → Int} (hE : tC (E q)) (hq : rQ q) (hp : p < 6) (hf : f < 6) (hL : 0 ≤ L ∧ L ≤ 9) : am_sem (d + 1) 167 [.ref q, .int (iI p), .int (iI f), .int (iI L)] am_S0 (dI E) = some (some (.int (iI (heT p f L (E q) 4).2)), am_S0, dI (setR E q (heT p f L (E q) 4).1)) := by
  refine mX10_hears rfl rfl ?_
  simp (disch := first | omega | simp only [am_ci, am_cr, am_ca]) only [eX10_hears_0, eX10_hears_1, eX10_hears_3, eX10_hears_4, am_bi, Int.reduceEq, Int.reduceLT, Int.reduceLE, Int.reduceToNat, ite_self, Decidable.not_not, not_true_eq_false, not_false_eq_true, ↓reduceIte, am_ci, am_cr, am_ca, am_b0, am_b1, am_ts, am_tn, am_then_some, List.cons_append, List.nil_append, ne_eq, iI_lit, iI_add, iI_sub, iI_mul, iI_neg, iI_lt, iI_le, iI_eq, iI_in, iI_clz, dI_ap, dI_wr, setR_s, wE_R, setR_2, setR_n, setR_o, updI_s, updI_n, updI_2, tl_0, tl_1, tl_2, tl_3, tl_4, tl_5, tl_6, tl_7, tl_8, tl_9, tl_10, tl_11, tl_12, tl_13, tl_14, tl_15, tl_16, tn_3, tn_5, tn_13, tn_21, tn_29, tn_33, tn_37, tn_41, tn_45, tn_49, tn_53, tn_57, tn_61, tn_40, tn_p, tn_0, true_and, and_true]
  have h0 := am_loop (P := fun k => ∀ v6 : Value, am_ev (am_sem d) 10 cX10_hears 6 [.ref q, .int (iI p), .int (iI f), .int (iI L), .int (iI (heT p f L (E q) k).2), .int (iI k), v6] [] am_S0 (dI (setR E q (heT p f L (E q) k).1)) (some (.int (iI (heT p f L (E q) 4).2)), am_S0, dI (setR E q (heT p f L (E q) 4).1))) (n := 4) ?_ ?_ (k := 0) (by omega)
  · have h1 := h0 (.retAddr 0)
    simp only [heT, setR_e] at h1
    exact h1
  · intro k hk4 ih v6
    have b1 := heT_C hE k (p := p) (f := f) (L := L) (61 + 4 * p + k)
    have b2 := heT_C hE k (p := p) (f := f) (L := L) (61 + 4 * f + k)
    have b3 := heT_C hE k (p := p) (f := f) (L := L) 3
    have b4 := heT_2 k (p := p) (f := f) (L := L) (t := E q)
    rw [eX10_hears_6]
    simp (disch := first | omega | simp only [am_ci, am_cr, am_ca]) only [eX10_hears_0, eX10_hears_1, eX10_hears_3, eX10_hears_4, eX10_hears_8, eX10_hears_9, eX10_hears_12, eX10_hears_13, eX10_hears_15, eX10_hears_16, eX10_hears_17, eX10_hears_18, eX10_hears_19, eX10_hears_21, eX10_hears_22, eX10_hears_23, eX10_hears_25, eX10_hears_26, eX10_hears_28, eX10_hears_29, eX10_hears_30, eX10_hears_31, eX10_hears_32, eX10_hears_34, eX10_hears_35, eX10_hears_36, eX10_hears_39, eX10_hears_41, eX10_hears_44, eX10_hears_45, eX10_hears_46, eX10_hears_47, eX10_hears_49, eX10_hears_50, eX10_hears_51, eX10_hears_52, eX10_hears_53, eX10_hears_56, eX10_hears_57, eX10_hears_59, eX10_hears_60, eX10_hears_61, eX10_hears_62, eX10_hears_63, eX10_hears_65, eX10_hears_66, eX10_hears_67, eX10_hears_68, eX10_hears_69, eX10_hears_70, eX10_hears_73, eX10_hears_76, eX10_hears_79, eX10_hears_81, am_bi, Int.reduceEq, Int.reduceLT, Int.reduceLE, Int.reduceToNat, ite_self, Decidable.not_not, not_true_eq_false, not_false_eq_true, ↓reduceIte, am_ci, am_cr, am_ca, am_b0, am_b1, am_ts, am_tn, am_then_some, List.cons_append, List.nil_append, ne_eq, iI_lit, iI_add, iI_sub, iI_mul, iI_neg, iI_lt, iI_le, iI_eq, iI_in, iI_clz, dI_ap, dI_wr, setR_s, wE_R, setR_2, setR_n, setR_o, updI_s, updI_n, updI_2, tl_0, tl_1, tl_2, tl_3, tl_4, tl_5, tl_6, tl_7, tl_8, tl_9, tl_10, tl_11, tl_12, tl_13, tl_14, tl_15, tl_16, tn_3, tn_5, tn_13, tn_21, tn_29, tn_33, tn_37, tn_41, tn_45, tn_49, tn_53, tn_57, tn_61, tn_40, tn_p, tn_0, true_and, and_true, hq.1, hq.2]
    rw [if_neg (by omega)]
    rw [heT_s p f L (E q) k] at ih
    by_cases hc : (heT p f L (E q) k).1 (61 + 4 * p + k) < 0 ∧ ¬ (heT p f L (E q) k).1 (61 + 4 * f + k) < 0 ∧ ¬ (heT p f L (E q) k).1 3 - (heT p f L (E q) k).1 (61 + 4 * f + k) < 3 * L
    · rw [if_pos hc] at ih
      rw [if_neg (by omega), if_neg (by omega), if_neg (by omega)]
      exact ih _
    · rw [if_neg hc] at ih
      (repeat' split) <;> first | exact ih _ | (exfalso; omega)
  · intro v6
    rw [eX10_hears_6]
    simp (disch := first | omega | simp only [am_ci, am_cr, am_ca]) only [eX10_hears_0, eX10_hears_1, eX10_hears_3, eX10_hears_4, eX10_hears_8, eX10_hears_9, eX10_hears_12, eX10_hears_13, eX10_hears_15, eX10_hears_16, eX10_hears_17, eX10_hears_18, eX10_hears_19, eX10_hears_21, eX10_hears_22, eX10_hears_23, eX10_hears_25, eX10_hears_26, eX10_hears_28, eX10_hears_29, eX10_hears_30, eX10_hears_31, eX10_hears_32, eX10_hears_34, eX10_hears_35, eX10_hears_36, eX10_hears_39, eX10_hears_41, eX10_hears_44, eX10_hears_45, eX10_hears_46, eX10_hears_47, eX10_hears_49, eX10_hears_50, eX10_hears_51, eX10_hears_52, eX10_hears_53, eX10_hears_56, eX10_hears_57, eX10_hears_59, eX10_hears_60, eX10_hears_61, eX10_hears_62, eX10_hears_63, eX10_hears_65, eX10_hears_66, eX10_hears_67, eX10_hears_68, eX10_hears_69, eX10_hears_70, eX10_hears_73, eX10_hears_76, eX10_hears_79, eX10_hears_81, am_bi, Int.reduceEq, Int.reduceLT, Int.reduceLE, Int.reduceToNat, ite_self, Decidable.not_not, not_true_eq_false, not_false_eq_true, ↓reduceIte, am_ci, am_cr, am_ca, am_b0, am_b1, am_ts, am_tn, am_then_some, List.cons_append, List.nil_append, ne_eq, iI_lit, iI_add, iI_sub, iI_mul, iI_neg, iI_lt, iI_le, iI_eq, iI_in, iI_clz, dI_ap, dI_wr, setR_s, wE_R, setR_2, setR_n, setR_o, updI_s, updI_n, updI_2, tl_0, tl_1, tl_2, tl_3, tl_4, tl_5, tl_6, tl_7, tl_8, tl_9, tl_10, tl_11, tl_12, tl_13, tl_14, tl_15, tl_16, tn_3, tn_5, tn_13, tn_21, tn_29, tn_33, tn_37, tn_41, tn_45, tn_49, tn_53, tn_57, tn_61, tn_40, tn_p, tn_0, true_and, and_true]
    rw [if_pos (by omega)]
    trivial
