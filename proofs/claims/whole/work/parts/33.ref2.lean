/-! ===== the reference: learns, tells ===== -/
theorem knT_lt (t : Nat → Int) (p : Nat) : ∀ k, k ≤ 4 → knT t p k < 2 ^ k
  | 0, _ => by simp [knT]
  | k + 1, h => by
    have ih := knT_lt t p k (by omega)
    rw [knT_s]
    have h1 : (2 : Nat) ^ k < 2 ^ (k + 1) := Nat.pow_lt_pow_right (by omega) (by omega)
    apply Nat.or_lt_two_pow (by omega)
    split
    · exact Nat.lt_of_le_of_lt (Nat.zero_le _) h1
    · exact h1
/-- the first k ships learn what is known in their ports -/
def leT (t : Nat → Int) : Nat → Nat → Int
  | 0 => t
  | k + 1 => updI (leT t k) (45 + k) (if leT t k (37 + k) = 0 ∧ leT t k (29 + k) ≠ 5 then (((leT t k (45 + k)).toNat ||| knT (leT t k) (leT t k (33 + k)).toNat 4 : Nat) : Int) else leT t k (45 + k))
theorem leT_s (t : Nat → Int) (k : Nat) : leT t (k + 1) = updI (leT t k) (45 + k) (if leT t k (37 + k) = 0 ∧ leT t k (29 + k) ≠ 5 then (((leT t k (45 + k)).toNat ||| knT (leT t k) (leT t k (33 + k)).toNat 4 : Nat) : Int) else leT t k (45 + k)) := rfl
theorem leT_o (t : Nat → Int) {i : Nat} : ∀ k, (i < 45 ∨ 45 + k ≤ i) → leT t k i = t i
  | 0, _ => rfl
  | k + 1, h => by
    rw [leT_s, updI_n (by omega)]
    exact leT_o t k (by omega)
theorem leT_B {t : Nat → Int} (h : ∀ s, s < 4 → 0 ≤ t (45 + s) ∧ t (45 + s) < 16) : ∀ k, k ≤ 4 → ∀ s, s < 4 → 0 ≤ leT t k (45 + s) ∧ leT t k (45 + s) < 16
  | 0, _, s, hs => h s hs
  | k + 1, hk, s, hs => by
    have ih := leT_B h k (by omega)
    rw [leT_s]
    by_cases e : s = k
    · subst e
      rw [updI_s]
      have h1 := ih s hs
      split
      · have h2 := knT_lt (leT t s) (leT t s (33 + s)).toNat 4 (by omega)
        have h3 : (leT t s (45 + s)).toNat < 2 ^ 4 := by omega
        have h4 := Nat.or_lt_two_pow h3 h2
        omega
      · exact h1
    · rw [updI_n (by omega)]
      exact ih s hs
theorem leT_C {t : Nat → Int} (hC : tC t) (h : ∀ s, s < 4 → 0 ≤ t (45 + s) ∧ t (45 + s) < 16) {k : Nat} (hk : k ≤ 4) : tC (leT t k) := by
  intro i
  by_cases hi : i < 45 ∨ 45 + k ≤ i
  · rw [leT_o t k hi]; exact hC i
  · have := leT_B h k hk (i - 45) (by omega)
    rw [show 45 + (i - 45) = i by omega] at this
    omega
theorem r_learns {d q : Nat} {E : Nat → Nat → Int} (hE : tC (E q)) (hq : rQ q) (hn : 0 ≤ E q 2 ∧ E q 2 ≤ 4) (hp : ∀ s, s < 4 → 0 ≤ E q (33 + s) ∧ E q (33 + s) < 6) (hb : ∀ s, s < 4 → 0 ≤ E q (45 + s) ∧ E q (45 + s) < 16) : am_sem (d + 2) 157 [.ref q] am_S0 (dI E) = some (none, am_S0, dI (setR E q (leT (E q) (E q 2).toNat))) := by
  refine mX10_learns rfl rfl ?_
  simp (disch := first | omega | simp only [am_ci, am_cr, am_ca]) only [eX10_learns_0, eX10_learns_1, am_bi, Int.reduceEq, Int.reduceLT, Int.reduceLE, Int.reduceToNat, ite_self, Decidable.not_not, not_true_eq_false, not_false_eq_true, ↓reduceIte, am_ci, am_cr, am_ca, am_b0, am_b1, am_ts, am_tn, am_then_some, List.cons_append, List.nil_append, ne_eq, iI_lit, iI_add, iI_sub, iI_mul, iI_neg, iI_lt, iI_le, iI_eq, iI_in, iI_clz, dI_ap, dI_wr, setR_s, wE_R, setR_2, setR_n, setR_o, updI_s, updI_n, updI_2, tl_0, tl_1, tl_2, tl_3, tl_4, tl_5, tl_6, tl_7, tl_8, tl_9, tl_10, tl_11, tl_12, tl_13, tl_14, tl_15, tl_16, tn_3, tn_5, tn_13, tn_21, tn_29, tn_33, tn_37, tn_41, tn_45, tn_49, tn_53, tn_57, tn_61, tn_40, tn_p, tn_0, true_and, and_true]
  have h0 := am_loop (P := fun k => am_ev (am_sem (d + 1)) 10 cX10_learns 2 [.ref q, .int (iI k)] [] am_S0 (dI (setR E q (leT (E q) k))) (none, am_S0, dI (setR E q (leT (E q) (E q 2).toNat)))) (n := (E q 2).toNat) ?_ ?_ (k := 0) (by omega)
  · simp only [leT, setR_e] at h0
    exact h0
  · intro k hk4 ih
    have hk' : k < 4 := by omega
    have hC := leT_C hE hb (k := k) (by omega)
    have e2 : leT (E q) k 2 = E q 2 := leT_o _ k (by omega)
    have b1 := hC (45 + k)
    have b2 := hC (37 + k)
    have b3 := hC (29 + k)
    have b4 := leT_B hb k (by omega) k hk'
    have e5 : leT (E q) k (33 + k) = E q (33 + k) := leT_o _ k (by omega)
    have b5 := hp k hk'
    obtain ⟨m, hm⟩ := Int.eq_ofNat_of_zero_le b5.1
    have hK := r_knownIn (d := d) (E := setR E q (leT (E q) k)) (q := q) (p := m) (by rw [setR_s]; exact hC) hq (by omega)
    rw [setR_s] at hK
    rw [leT_s, e5, hm] at ih
    rw [eX10_learns_2]
    simp (disch := first | omega | simp only [am_ci, am_cr, am_ca]) only [eX10_learns_0, eX10_learns_1, eX10_learns_3, eX10_learns_4, eX10_learns_5, eX10_learns_6, eX10_learns_9, eX10_learns_10, eX10_learns_12, eX10_learns_13, eX10_learns_14, eX10_learns_15, eX10_learns_16, eX10_learns_17, eX10_learns_19, eX10_learns_20, eX10_learns_21, eX10_learns_22, eX10_learns_25, eX10_learns_26, eX10_learns_28, eX10_learns_29, eX10_learns_30, eX10_learns_31, eX10_learns_32, eX10_learns_35, eX10_learns_36, eX10_learns_37, eX10_learns_39, eX10_learns_40, eX10_learns_41, eX10_learns_42, eX10_learns_45, eX10_learns_48, eX10_learns_49, eX10_learns_50, eX10_learns_51, eX10_learns_54, eX10_learns_57, am_bi, Int.reduceEq, Int.reduceLT, Int.reduceLE, Int.reduceToNat, ite_self, Decidable.not_not, not_true_eq_false, not_false_eq_true, ↓reduceIte, am_ci, am_cr, am_ca, am_b0, am_b1, am_ts, am_tn, am_then_some, List.cons_append, List.nil_append, ne_eq, iI_lit, iI_add, iI_sub, iI_mul, iI_neg, iI_lt, iI_le, iI_eq, iI_in, iI_clz, dI_ap, dI_wr, setR_s, wE_R, setR_2, setR_n, setR_o, updI_s, updI_n, updI_2, tl_0, tl_1, tl_2, tl_3, tl_4, tl_5, tl_6, tl_7, tl_8, tl_9, tl_10, tl_11, tl_12, tl_13, tl_14, tl_15, tl_16, tn_3, tn_5, tn_13, tn_21, tn_29, tn_33, tn_37, tn_41, tn_45, tn_49, tn_53, tn_57, tn_61, tn_40, tn_p, tn_0, true_and, and_true, hq.1, hq.2, e2, e5, hm, hK, iI_orz, iI_or0]
    rw [if_neg (by omega)]
    by_cases hc : leT (E q) k (37 + k) = 0 ∧ leT (E q) k (29 + k) ≠ 5
    · rw [if_pos hc] at ih
      rw [if_neg (by omega), if_neg (by omega)]
      exact ih
    · rw [if_neg hc] at ih
      (repeat' split) <;> first | exact ih | (exfalso; omega)
  · have e2 : leT (E q) (E q 2).toNat 2 = E q 2 := leT_o _ _ (by omega)
    rw [eX10_learns_2]
    simp (disch := first | omega | simp only [am_ci, am_cr, am_ca]) only [eX10_learns_0, eX10_learns_1, eX10_learns_3, eX10_learns_4, eX10_learns_5, eX10_learns_6, eX10_learns_9, eX10_learns_10, eX10_learns_12, eX10_learns_13, eX10_learns_14, eX10_learns_15, eX10_learns_16, eX10_learns_17, eX10_learns_19, eX10_learns_20, eX10_learns_21, eX10_learns_22, eX10_learns_25, eX10_learns_26, eX10_learns_28, eX10_learns_29, eX10_learns_30, eX10_learns_31, eX10_learns_32, eX10_learns_35, eX10_learns_36, eX10_learns_37, eX10_learns_39, eX10_learns_40, eX10_learns_41, eX10_learns_42, eX10_learns_45, eX10_learns_48, eX10_learns_49, eX10_learns_50, eX10_learns_51, eX10_learns_54, eX10_learns_57, am_bi, Int.reduceEq, Int.reduceLT, Int.reduceLE, Int.reduceToNat, ite_self, Decidable.not_not, not_true_eq_false, not_false_eq_true, ↓reduceIte, am_ci, am_cr, am_ca, am_b0, am_b1, am_ts, am_tn, am_then_some, List.cons_append, List.nil_append, ne_eq, iI_lit, iI_add, iI_sub, iI_mul, iI_neg, iI_lt, iI_le, iI_eq, iI_in, iI_clz, dI_ap, dI_wr, setR_s, wE_R, setR_2, setR_n, setR_o, updI_s, updI_n, updI_2, tl_0, tl_1, tl_2, tl_3, tl_4, tl_5, tl_6, tl_7, tl_8, tl_9, tl_10, tl_11, tl_12, tl_13, tl_14, tl_15, tl_16, tn_3, tn_5, tn_13, tn_21, tn_29, tn_33, tn_37, tn_41, tn_45, tn_49, tn_53, tn_57, tn_61, tn_40, tn_p, tn_0, true_and, and_true, hq.1, hq.2, e2]
    rw [if_pos (by omega)]
    trivial
/-- a ship tells its port the first k news that it knows, and has its pence -/
def teT (s p : Nat) (t : Nat → Int) : Nat → (Nat → Int) × Int
  | 0 => (t, 0)
  | k + 1 => if ((((teT s p t k).1 (45 + s)).toNat / 2 ^ k % 2 : Nat) : Int) = 1 ∧ (teT s p t k).1 (61 + 4 * p + k) < 0 then (updI (updI (teT s p t k).1 (61 + 4 * p + k) ((teT s p t k).1 3)) (41 + s) ((teT s p t k).1 (41 + s) + (if 10 - (teT s p t k).1 3 + (teT s p t k).1 (53 + k) ≤ 0 then 0 else 10 - (teT s p t k).1 3 + (teT s p t k).1 (53 + k))), (teT s p t k).2 + 1) else teT s p t k
theorem teT_s (s p : Nat) (t : Nat → Int) (k : Nat) : teT s p t (k + 1) = if ((((teT s p t k).1 (45 + s)).toNat / 2 ^ k % 2 : Nat) : Int) = 1 ∧ (teT s p t k).1 (61 + 4 * p + k) < 0 then (updI (updI (teT s p t k).1 (61 + 4 * p + k) ((teT s p t k).1 3)) (41 + s) ((teT s p t k).1 (41 + s) + (if 10 - (teT s p t k).1 3 + (teT s p t k).1 (53 + k) ≤ 0 then 0 else 10 - (teT s p t k).1 3 + (teT s p t k).1 (53 + k))), (teT s p t k).2 + 1) else teT s p t k := rfl
theorem teT_o (s p : Nat) (t : Nat → Int) {i : Nat} (hi : i < 61) (hs : i ≠ 41 + s) : ∀ k, (teT s p t k).1 i = t i
  | 0 => rfl
  | k + 1 => by
    have ih := teT_o s p t hi hs k
    rw [teT_s]
    split
    · simp only
      rw [updI_n hs, updI_n (by omega)]
      exact ih
    · exact ih
/-- the pence grow by ten a news at most -/
theorem teT_p (s p : Nat) (t : Nat → Int) (hs : s < 4) (h3 : ∀ n, n < 4 → t (53 + n) ≤ t 3) : ∀ k, k ≤ 4 → t (41 + s) ≤ (teT s p t k).1 (41 + s) ∧ (teT s p t k).1 (41 + s) ≤ t (41 + s) + 10 * k
  | 0, _ => by simp [teT]
  | k + 1, hk => by
    have ih := teT_p s p t hs h3 k (by omega)
    have e1 := teT_o s p t (i := 3) (by omega) (by omega) k
    have e2 := teT_o s p t (i := 53 + k) (by omega) (by omega) k
    have h4 := h3 k (by omega)
    rw [teT_s]
    split
    · simp only
      rw [updI_s, e1, e2]
      split <;> omega
    · omega
theorem teT_k (s p : Nat) (t : Nat → Int) {i : Nat} (hi : 61 ≤ i) (hs : s < 4) : ∀ k, (teT s p t k).1 i = t i ∨ (t i < 0 ∧ (teT s p t k).1 i = t 3)
  | 0 => Or.inl rfl
  | k + 1 => by
    have ih := teT_k s p t hi hs k
    have e1 := teT_o s p t (i := 3) (by omega) (by omega) k
    rw [teT_s]
    split
    · rename_i hc
      simp only
      rw [updI_n (by omega)]
      by_cases e : i = 61 + 4 * p + k
      · subst e
        rw [updI_s, e1]
        rcases ih with ih | ih
        · exact Or.inr ⟨by omega, rfl⟩
        · exact Or.inr ⟨ih.1, rfl⟩
      · rw [updI_n e]
        exact ih
    · exact ih
theorem teT_C {s p : Nat} {t : Nat → Int} (hC : tC t) (hs : s < 4) (h3 : ∀ n, n < 4 → t (53 + n) ≤ t 3) (hp : 0 ≤ t (41 + s) ∧ t (41 + s) ≤ 90000) {k : Nat} (hk : k ≤ 4) : tC (teT s p t k).1 := by
  intro i
  by_cases h1 : 61 ≤ i
  · rcases teT_k s p t h1 hs k with e | e
    · rw [e]; exact hC i
    · rw [e.2]; exact hC 3
  · by_cases h2 : i = 41 + s
    · subst h2
      have := teT_p s p t hs h3 k hk
      omega
    · rw [teT_o s p t (by omega) h2 k]; exact hC i
theorem teT_2 (s p : Nat) (t : Nat → Int) : ∀ k, 0 ≤ (teT s p t k).2 ∧ (teT s p t k).2 ≤ k
  | 0 => by simp [teT]
  | k + 1 => by
    have ih := teT_2 s p t k
    rw [teT_s]
    split
    · simp only; omega
    · omega
theorem r_tells {d q s : Nat} {E : Nat → Nat → Int} (hE : tC (E q)) (hq : rQ q) (hs : s < 4) (h3 : ∀ n, n < 4 → E q (53 + n) ≤ E q 3) (hpe : 0 ≤ E q (41 + s) ∧ E q (41 + s) ≤ 90000) (hp : 0 ≤ E q (33 + s) ∧ E q (33 + s) < 6) (hb : 0 ≤ E q (45 + s) ∧ E q (45 + s) < 16) : am_sem (d + 1) 168 [.ref q, .int (iI s)] am_S0 (dI E) = some (some (.int (iI (teT s (E q (33 + s)).toNat (E q) 4).2)), am_S0, dI (setR E q (teT s (E q (33 + s)).toNat (E q) 4).1)) := by
  obtain ⟨m, hm⟩ := Int.eq_ofNat_of_zero_le hp.1
  rw [hm, show ((m : Int)).toNat = m from rfl]
  refine mX10_tells rfl rfl ?_
  simp (disch := first | omega | simp only [am_ci, am_cr, am_ca]) only [eX10_tells_0, eX10_tells_1, eX10_tells_2, eX10_tells_3, eX10_tells_5, eX10_tells_6, eX10_tells_7, eX10_tells_8, eX10_tells_9, eX10_tells_10, am_bi, Int.reduceEq, Int.reduceLT, Int.reduceLE, Int.reduceToNat, ite_self, Decidable.not_not, not_true_eq_false, not_false_eq_true, ↓reduceIte, am_ci, am_cr, am_ca, am_b0, am_b1, am_ts, am_tn, am_then_some, List.cons_append, List.nil_append, ne_eq, iI_lit, iI_add, iI_sub, iI_mul, iI_neg, iI_lt, iI_le, iI_eq, iI_in, iI_clz, dI_ap, dI_wr, setR_s, wE_R, setR_2, setR_n, setR_o, updI_s, updI_n, updI_2, tl_0, tl_1, tl_2, tl_3, tl_4, tl_5, tl_6, tl_7, tl_8, tl_9, tl_10, tl_11, tl_12, tl_13, tl_14, tl_15, tl_16, tn_3, tn_5, tn_13, tn_21, tn_29, tn_33, tn_37, tn_41, tn_45, tn_49, tn_53, tn_57, tn_61, tn_40, tn_p, tn_0, true_and, and_true, hq.1, hq.2, hm]
  have h0 := am_loop (P := fun k => ∀ v5 : Value, am_ev (am_sem d) 10 cX10_tells 12 [.ref q, .int (iI s), .int (iI (teT s m (E q) k).2), .int (iI m), .int (iI k), v5] [] am_S0 (dI (setR E q (teT s m (E q) k).1)) (some (.int (iI (teT s m (E q) 4).2)), am_S0, dI (setR E q (teT s m (E q) 4).1))) (n := 4) ?_ ?_ (k := 0) (by omega)
  · have h1 := h0 (.retAddr 0)
    simp only [teT, setR_e] at h1
    exact h1
  · intro k hk4 ih v5
    have hC := teT_C (p := m) hE hs h3 hpe (k := k) (by omega)
    have b1 := hC (61 + 4 * m + k)
    have b2 := hC (53 + k)
    have b3 := hC 3
    have b4 := hC (41 + s)
    have b5 := teT_2 s m (E q) k
    have e6 : (teT s m (E q) k).1 (45 + s) = E q (45 + s) := teT_o s m (E q) (by omega) (by omega) k
    have b7 : ((E q (45 + s)).toNat / 2 ^ k % 2) < 2 := Nat.mod_lt _ (by omega)
    have n1 : 3 ≠ 61 + 4 * m + k := by omega
    have n2 : 53 + k ≠ 61 + 4 * m + k := by omega
    have n3 : 41 + s ≠ 61 + 4 * m + k := by omega
    rw [teT_s s m (E q) k] at ih
    rw [e6] at ih
    rw [eX10_tells_12]
    simp (disch := first | omega | simp only [am_ci, am_cr, am_ca]) only [eX10_tells_0, eX10_tells_1, eX10_tells_2, eX10_tells_3, eX10_tells_5, eX10_tells_6, eX10_tells_7, eX10_tells_8, eX10_tells_9, eX10_tells_10, eX10_tells_14, eX10_tells_15, eX10_tells_18, eX10_tells_19, eX10_tells_21, eX10_tells_22, eX10_tells_23, eX10_tells_24, eX10_tells_26, eX10_tells_27, eX10_tells_28, eX10_tells_29, eX10_tells_30, eX10_tells_33, eX10_tells_34, eX10_tells_36, eX10_tells_37, eX10_tells_38, eX10_tells_39, eX10_tells_40, eX10_tells_42, eX10_tells_43, eX10_tells_44, eX10_tells_47, eX10_tells_48, eX10_tells_50, eX10_tells_51, eX10_tells_52, eX10_tells_53, eX10_tells_54, eX10_tells_56, eX10_tells_57, eX10_tells_58, eX10_tells_59, eX10_tells_60, eX10_tells_61, eX10_tells_63, eX10_tells_64, eX10_tells_65, eX10_tells_66, eX10_tells_67, eX10_tells_68, eX10_tells_70, eX10_tells_72, eX10_tells_73, eX10_tells_74, eX10_tells_75, eX10_tells_77, eX10_tells_78, eX10_tells_80, eX10_tells_81, eX10_tells_82, eX10_tells_83, eX10_tells_84, eX10_tells_86, eX10_tells_89, eX10_tells_91, eX10_tells_94, eX10_tells_95, eX10_tells_96, eX10_tells_97, eX10_tells_100, eX10_tells_103, eX10_tells_106, eX10_tells_107, am_bi, Int.reduceEq, Int.reduceLT, Int.reduceLE, Int.reduceToNat, ite_self, Decidable.not_not, not_true_eq_false, not_false_eq_true, ↓reduceIte, am_ci, am_cr, am_ca, am_b0, am_b1, am_ts, am_tn, am_then_some, List.cons_append, List.nil_append, ne_eq, iI_lit, iI_add, iI_sub, iI_mul, iI_neg, iI_lt, iI_le, iI_eq, iI_in, iI_clz, dI_ap, dI_wr, setR_s, wE_R, setR_2, setR_n, setR_o, updI_s, updI_n, updI_2, tl_0, tl_1, tl_2, tl_3, tl_4, tl_5, tl_6, tl_7, tl_8, tl_9, tl_10, tl_11, tl_12, tl_13, tl_14, tl_15, tl_16, tn_3, tn_5, tn_13, tn_21, tn_29, tn_33, tn_37, tn_41, tn_45, tn_49, tn_53, tn_57, tn_61, tn_40, tn_p, tn_0, true_and, and_true, hq.1, hq.2, iI_bit, e6, updI_n n1, updI_n n2, updI_n n3]
    rw [if_neg (by omega)]
    by_cases hc : (((E q (45 + s)).toNat / 2 ^ k % 2 : Nat) : Int) = 1 ∧ (teT s m (E q) k).1 (61 + 4 * m + k) < 0
    · rw [if_pos hc] at ih
      rw [if_neg (by omega), if_neg (by omega)]
      split
      · rename_i h; rw [if_pos h] at ih; exact ih _
      · rename_i h; rw [if_neg h] at ih; exact ih _
    · rw [if_neg hc] at ih
      (repeat' split) <;> first | exact ih _ | (exfalso; omega)
  · intro v5
    rw [eX10_tells_12]
    simp (disch := first | omega | simp only [am_ci, am_cr, am_ca]) only [eX10_tells_0, eX10_tells_1, eX10_tells_2, eX10_tells_3, eX10_tells_5, eX10_tells_6, eX10_tells_7, eX10_tells_8, eX10_tells_9, eX10_tells_10, eX10_tells_14, eX10_tells_15, eX10_tells_18, eX10_tells_19, eX10_tells_21, eX10_tells_22, eX10_tells_23, eX10_tells_24, eX10_tells_26, eX10_tells_27, eX10_tells_28, eX10_tells_29, eX10_tells_30, eX10_tells_33, eX10_tells_34, eX10_tells_36, eX10_tells_37, eX10_tells_38, eX10_tells_39, eX10_tells_40, eX10_tells_42, eX10_tells_43, eX10_tells_44, eX10_tells_47, eX10_tells_48, eX10_tells_50, eX10_tells_51, eX10_tells_52, eX10_tells_53, eX10_tells_54, eX10_tells_56, eX10_tells_57, eX10_tells_58, eX10_tells_59, eX10_tells_60, eX10_tells_61, eX10_tells_63, eX10_tells_64, eX10_tells_65, eX10_tells_66, eX10_tells_67, eX10_tells_68, eX10_tells_70, eX10_tells_72, eX10_tells_73, eX10_tells_74, eX10_tells_75, eX10_tells_77, eX10_tells_78, eX10_tells_80, eX10_tells_81, eX10_tells_82, eX10_tells_83, eX10_tells_84, eX10_tells_86, eX10_tells_89, eX10_tells_91, eX10_tells_94, eX10_tells_95, eX10_tells_96, eX10_tells_97, eX10_tells_100, eX10_tells_103, eX10_tells_106, eX10_tells_107, am_bi, Int.reduceEq, Int.reduceLT, Int.reduceLE, Int.reduceToNat, ite_self, Decidable.not_not, not_true_eq_false, not_false_eq_true, ↓reduceIte, am_ci, am_cr, am_ca, am_b0, am_b1, am_ts, am_tn, am_then_some, List.cons_append, List.nil_append, ne_eq, iI_lit, iI_add, iI_sub, iI_mul, iI_neg, iI_lt, iI_le, iI_eq, iI_in, iI_clz, dI_ap, dI_wr, setR_s, wE_R, setR_2, setR_n, setR_o, updI_s, updI_n, updI_2, tl_0, tl_1, tl_2, tl_3, tl_4, tl_5, tl_6, tl_7, tl_8, tl_9, tl_10, tl_11, tl_12, tl_13, tl_14, tl_15, tl_16, tn_3, tn_5, tn_13, tn_21, tn_29, tn_33, tn_37, tn_41, tn_45, tn_49, tn_53, tn_57, tn_61, tn_40, tn_p, tn_0, true_and, and_true]
    rw [if_pos (by omega)]
    trivial
