/-! ===== reading: the class's reader, all of it ===== -/
theorem RL0_p0 {E : Nat → Nat → Int} {a : Nat} {t : Nat → Int} (h : RL0 E a t) {z : Int} : RL0 (setR E a (updI (E a) 0 z)) a (updI t 0 z) := by
  obtain ⟨⟨h00, h01, h02, h03, h04⟩, h1, h2, h3, h4⟩ := h
  refine ⟨⟨?_, ?_, ?_, ?_, ?_⟩, fun w hw hw2 => ?_, fun s hs hs2 => ?_, fun n hn hn2 => ?_, fun i hi => ?_⟩
  · rw [setR_s, updI_s, updI_s]
  · rw [setR_s, updI_n (by omega), updI_n (by omega)]; exact h01
  · rw [setR_s, updI_n (by omega), updI_n (by omega)]; exact h02
  · rw [setR_s, updI_n (by omega), updI_n (by omega)]; exact h03
  · rw [setR_s, updI_n (by omega), updI_n (by omega)]; exact h04
  · simp (disch := omega) only [setR_n, updI_n] at hw2 ⊢; exact h1 w hw hw2
  · simp (disch := omega) only [setR_n, updI_n] at hs2 ⊢; exact h2 s hs hs2
  · simp (disch := omega) only [setR_n, updI_n] at hn2 ⊢; exact h3 n hn hn2
  · simp (disch := omega) only [setR_n, updI_n]; exact h4 i hi
theorem RL0_cg {E : Nat → Nat → Int} {a : Nat} {t u : Nat → Int} (h : RL0 E a t) (hu : ∀ i, i < 85 → u i = t i) : RL0 E a u := by
  obtain ⟨h0, h1, h2, h3, h4⟩ := h
  refine ⟨by rw [hu 0 (by omega), hu 1 (by omega), hu 2 (by omega), hu 3 (by omega), hu 4 (by omega)]; exact h0, fun w hw hw2 => ?_, fun s hs hs2 => ?_, fun n hn hn2 => ?_, fun i hi => ?_⟩
  · rw [hu 1 (by omega)] at hw2
    rw [hu _ (by omega), hu _ (by omega), hu _ (by omega)]; exact h1 w hw hw2
  · rw [hu 2 (by omega)] at hs2
    rw [hu _ (by omega), hu _ (by omega), hu _ (by omega), hu _ (by omega)]; exact h2 s hs hs2
  · rw [hu 4 (by omega)] at hn2
    rw [hu _ (by omega), hu _ (by omega)]; exact h3 n hn hn2
  · rw [hu _ (by omega)]; exact h4 i hi
theorem z1_z0 : ∀ i, i < 85 → z1T i = z0T i := fun i hi => by
  unfold z1T z0T
  split
  · rfl
  · rfl
theorem rdI_z1 {n : Int} (hn : 2 ≤ n ∧ n ≤ 6) : rdI (updI z1T 0 n) := by
  have o : ∀ i, i ≠ 0 → i < 61 → updI z1T 0 n i = 0 := fun i h1 h2 => by rw [updI_n h1]; unfold z1T; rw [if_pos h2]
  refine ⟨by rw [updI_s]; exact hn, by rw [o 1 (by omega) (by omega)]; omega, by rw [o 2 (by omega) (by omega)]; omega, o 3 (by omega) (by omega), o 4 (by omega) (by omega), fun w hw => ?_, fun s hs => ?_, fun i x1 x2 => o i (by omega) x2, fun i x1 x2 => ?_, fun i x1 => ?_⟩
  · rw [o 1 (by omega) (by omega), o (5 + w) (by omega) (by omega), o (13 + w) (by omega) (by omega), o (21 + w) (by omega) (by omega)]
    exact ⟨fun hx => by omega, fun _ => ⟨rfl, rfl, rfl⟩⟩
  · rw [o 2 (by omega) (by omega), o (29 + s) (by omega) (by omega), o (33 + s) (by omega) (by omega)]
    exact ⟨fun hx => by omega, fun _ => ⟨rfl, rfl⟩⟩
  · rw [updI_n (by omega)]; unfold z1T; rw [if_neg (by omega), if_pos x2]
  · rw [updI_n (by omega)]; unfold z1T; rw [if_neg (by omega), if_neg (by omega)]
theorem waO_r {f : Nat → Int} {N : Nat} : ∀ (k j : Nat) (t : Nat → Int) (p : Nat) {x : (Nat → Int) × Nat}, j + k = 8 → rdI t → t 1 = (j : Int) → waO f N k t p = .inr x → rdI x.1 ∧ x.1 2 = t 2
  | 0, j, t, p, x, hj, h, h1, hx => by
    unfold waO at hx
    split at hx
    · cases hx
    · cases hx; exact ⟨h, rfl⟩
  | k + 1, j, t, p, x, hj, h, h1, hx => by
    unfold waO at hx
    split at hx
    · cases hy : wyO f N t (nxC f N p) with
      | inl e => rw [hy] at hx; cases hx
      | inr y =>
        rw [hy] at hx
        change waO f N k y.1 y.2 = _ at hx
        obtain ⟨r1, r2, r3, r4⟩ := rdI_wyO h h1 (by omega) hy
        have := waO_r k (j + 1) y.1 y.2 (by omega) r1 (by omega) hx
        exact ⟨this.1, by rw [this.2, r4]⟩
    · cases hx; exact ⟨h, rfl⟩
theorem shO_r {f : Nat → Int} {N : Nat} : ∀ (k j : Nat) (t : Nat → Int) (p : Nat) {x : (Nat → Int) × Nat}, j + k = 4 → rdI t → t 2 = (j : Int) → shO f N k t p = .inr x → rdI x.1
  | 0, j, t, p, x, hj, h, h1, hx => by
    unfold shO at hx
    split at hx
    · cases hx
    · cases hx; exact h
  | k + 1, j, t, p, x, hj, h, h1, hx => by
    unfold shO at hx
    split at hx
    · rename_i c
      have kb := kdO_b (tkC f N p)
      cases hy : spO f N (kdO (tkC f N p)) t (nxC f N p) with
      | inl e => rw [hy] at hx; cases hx
      | inr y =>
        rw [hy] at hx
        change shO f N k y.1 y.2 = _ at hx
        obtain ⟨r1, r2, r3, r4⟩ := rdI_spO h h1 (by omega) (by omega) hy
        exact shO_r k (j + 1) y.1 y.2 (by omega) r1 (by omega) hx
    · cases hx; exact h
theorem prO_r {f : Nat → Int} {N : Nat} {t : Nat → Int} (hx : prO f N = .inr t) : rdI t := by
  unfold prO at hx
  cases h1 : sgO f N 0 112 with
  | inl e => rw [h1] at hx; cases hx
  | inr p1 =>
    rw [h1] at hx
    change bO (nuO f N p1 2 6 (-1)) _ = _ at hx
    cases h2 : nuO f N p1 2 6 (-1) with
    | inl e => rw [h2] at hx; cases hx
    | inr a =>
      rw [h2] at hx
      change bO (sgO f N a.2 59) _ = _ at hx
      cases h3 : sgO f N a.2 59 with
      | inl e => rw [h3] at hx; cases hx
      | inr p3 =>
        rw [h3] at hx
        change bO (waO f N 8 (updI z1T 0 a.1) p3) _ = _ at hx
        have ra := nuO_r h2
        have r0 := rdI_z1 (n := a.1) ⟨ra.1, ra.2.1⟩
        cases h4 : waO f N 8 (updI z1T 0 a.1) p3 with
        | inl e => rw [h4] at hx; cases hx
        | inr x =>
          rw [h4] at hx
          change bO (shO f N 4 x.1 x.2) _ = _ at hx
          have rw1 := waO_r 8 0 (updI z1T 0 a.1) p3 (by omega) r0 rfl h4
          cases h5 : shO f N 4 x.1 x.2 with
          | inl e => rw [h5] at hx; cases hx
          | inr y =>
            rw [h5] at hx
            change (if tkC f N y.2 = 257 then _ else _) = _ at hx
            split at hx
            · cases hx
              exact shO_r 4 0 x.1 x.2 (by omega) rw1.1 (by rw [rw1.2]; rfl) h5
            · cases hx
section
variable {f : Nat → Int} {N : Nat}
theorem c_readWays {d p : Nat} {t : Nat → Int} {E : Nat → Nat → Int} (hB : bsR f N E) (hv : vwR f N E p) (hL : lgR E 16 t) (hr : rdI t) (h1 : t 1 = 0) : ∃ E' z, frD E E' ∧ am_sem (d + 5) 61 [.ref 15] am_S0 (dI E) = some (some (.int (iI z)), am_S0, dI E') ∧ cOu f N E' (waO f N 8 t p) z := by
  obtain ⟨E', z, a1, a2, a3⟩ := c_readWays_l (d := d) 8 0 t E p (by omega) hB hv hL hr h1
  refine ⟨E', z, a1, mX4_readWays rfl rfl (cOu_01 a3) ?_, a3⟩
  simp (disch := first | omega | simp only [am_ci, am_cr, am_ca]) only [eX4_readWays_0, eX4_readWays_1, am_bi, Int.reduceEq, Int.reduceLT, Int.reduceLE, Int.reduceToNat, ite_self, Decidable.not_not, not_true_eq_false, not_false_eq_true, ↓reduceIte, am_ci, am_cr, am_ca, am_b0, am_b1, am_ts, am_tn, am_then_some, List.cons_append, List.nil_append, ne_eq, iI_lit, iI_add, iI_sub, iI_mul, iI_neg, iI_lt, iI_le, iI_eq, iI_in, iI_clz, dI_ap, dI_wr, setR_s, wE_R, setR_2, setR_n, setR_o, updI_s, updI_n, updI_2, tl_0, tl_1, tl_2, tl_3, tl_4, tl_5, tl_6, tl_7, tl_8, tl_9, tl_10, tl_11, tl_12, tl_13, tl_14, tl_15, tl_16, tn_3, tn_5, tn_13, tn_21, tn_29, tn_33, tn_37, tn_41, tn_45, tn_49, tn_53, tn_57, tn_61, tn_40, tn_p, tn_0, true_and, and_true, sk_0, sk_1, sk_2, sl_2, sk_3, sl_3, sk_4, sl_4, sk_5, sl_5, sk_6, sl_6, sk_7, sl_7, sk_8, sl_8, sk_9, sl_9, sk_10, sl_10, sk_11, sl_11, sk_12, sl_12, sk_13, sk_14, sl_14, sk_15, sk_40, sk_41, sl_41, sk_330, sl_330, sk_355, sk_356, sl_356, sk_357, sl_357, sk_358, sl_358, sk_359, sl_359, sk_360, sl_360, sk_361, sk_362, sl_362, sk_363, sk_376, sk_377, sl_377, sk_378, sk_379, sl_379, sk_380, sl_380, sk_381, sl_381, sk_382, sl_382, sk_383, sl_383, sk_384, sl_384, sk_385, sl_385, sk_386, sl_386, sk_387, sl_387, sk_388, sl_388, sk_389, sl_389, sk_390, sl_390, sk_391, sl_391, sk_392, sl_392, sk_393, sl_393, sk_394, sl_394, sr_0_0, sr_0_1, sr_0_2, sr_0_3, sr_0_4, sr_0_5, sr_0_6, sr_0_7, sr_0_8, sr_0_9, sr_1_0, sr_1_1, sr_1_2, sr_13_0, sr_15_0, sr_15_2, sr_40_0, sr_355_0, sr_355_1, sr_355_2, sr_355_3, sr_355_4, sr_355_5, sr_361_2, sr_361_5, sr_361_6, sr_363_0, sr_363_1, sr_376_0, sr_376_2, sr_378_0, sr_378_1, sr_378_2, sr_378_4, sr_378_8, sr_378_10, sr_378_11, sr_378_12, sr_378_14, sr_378_20, sr_378_21, sr_378_22, sr_378_23, sr_378_24, sr_378_25, sr_378_26, am_vs]
  exact a2
theorem c_readShips {d p : Nat} {t : Nat → Int} {E : Nat → Nat → Int} (hB : bsR f N E) (hv : vwR f N E p) (hL : lgR E 16 t) (hr : rdI t) (h1 : t 2 = 0) : ∃ E' z, frD E E' ∧ am_sem (d + 5) 63 [.ref 15] am_S0 (dI E) = some (some (.int (iI z)), am_S0, dI E') ∧ cOu f N E' (shO f N 4 t p) z := by
  obtain ⟨E', z, a1, a2, a3⟩ := c_readShips_l (d := d) 4 0 t E p (by omega) hB hv hL hr h1
  refine ⟨E', z, a1, mX4_readShips rfl rfl (cOu_01 a3) ?_, a3⟩
  simp (disch := first | omega | simp only [am_ci, am_cr, am_ca]) only [eX4_readShips_0, eX4_readShips_1, am_bi, Int.reduceEq, Int.reduceLT, Int.reduceLE, Int.reduceToNat, ite_self, Decidable.not_not, not_true_eq_false, not_false_eq_true, ↓reduceIte, am_ci, am_cr, am_ca, am_b0, am_b1, am_ts, am_tn, am_then_some, List.cons_append, List.nil_append, ne_eq, iI_lit, iI_add, iI_sub, iI_mul, iI_neg, iI_lt, iI_le, iI_eq, iI_in, iI_clz, dI_ap, dI_wr, setR_s, wE_R, setR_2, setR_n, setR_o, updI_s, updI_n, updI_2, tl_0, tl_1, tl_2, tl_3, tl_4, tl_5, tl_6, tl_7, tl_8, tl_9, tl_10, tl_11, tl_12, tl_13, tl_14, tl_15, tl_16, tn_3, tn_5, tn_13, tn_21, tn_29, tn_33, tn_37, tn_41, tn_45, tn_49, tn_53, tn_57, tn_61, tn_40, tn_p, tn_0, true_and, and_true, sk_0, sk_1, sk_2, sl_2, sk_3, sl_3, sk_4, sl_4, sk_5, sl_5, sk_6, sl_6, sk_7, sl_7, sk_8, sl_8, sk_9, sl_9, sk_10, sl_10, sk_11, sl_11, sk_12, sl_12, sk_13, sk_14, sl_14, sk_15, sk_40, sk_41, sl_41, sk_330, sl_330, sk_355, sk_356, sl_356, sk_357, sl_357, sk_358, sl_358, sk_359, sl_359, sk_360, sl_360, sk_361, sk_362, sl_362, sk_363, sk_376, sk_377, sl_377, sk_378, sk_379, sl_379, sk_380, sl_380, sk_381, sl_381, sk_382, sl_382, sk_383, sl_383, sk_384, sl_384, sk_385, sl_385, sk_386, sl_386, sk_387, sl_387, sk_388, sl_388, sk_389, sl_389, sk_390, sl_390, sk_391, sl_391, sk_392, sl_392, sk_393, sl_393, sk_394, sl_394, sr_0_0, sr_0_1, sr_0_2, sr_0_3, sr_0_4, sr_0_5, sr_0_6, sr_0_7, sr_0_8, sr_0_9, sr_1_0, sr_1_1, sr_1_2, sr_13_0, sr_15_0, sr_15_2, sr_40_0, sr_355_0, sr_355_1, sr_355_2, sr_355_3, sr_355_4, sr_355_5, sr_361_2, sr_361_5, sr_361_6, sr_363_0, sr_363_1, sr_376_0, sr_376_2, sr_378_0, sr_378_1, sr_378_2, sr_378_4, sr_378_8, sr_378_10, sr_378_11, sr_378_12, sr_378_14, sr_378_20, sr_378_21, sr_378_22, sr_378_23, sr_378_24, sr_378_25, sr_378_26, am_vs]
  exact a2
/-- the ports -/
def poO (f : Nat → Int) (N : Nat) : (Int × Nat) ⊕ ((Nat → Int) × Nat) := bO (sgO f N 0 112) fun p1 => bO (nuO f N p1 2 6 (-1)) fun a => bO (sgO f N a.2 59) fun p3 => .inr (updI z1T 0 a.1, p3)
theorem prO_po : prO f N = bO (poO f N) fun w => bO (waO f N 8 w.1 w.2) fun x => bO (shO f N 4 x.1 x.2) fun y => if tkC f N y.2 = 257 then .inr y.1 else .inl (1, y.2) := by
  unfold prO poO
  cases h1 : sgO f N 0 112 with
  | inl e => rfl
  | inr p1 =>
    show bO (nuO f N p1 2 6 (-1)) _ = bO (bO (nuO f N p1 2 6 (-1)) _) _
    cases h2 : nuO f N p1 2 6 (-1) with
    | inl e => rfl
    | inr a =>
      show bO (sgO f N a.2 59) _ = bO (bO (sgO f N a.2 59) _) _
      cases h3 : sgO f N a.2 59 with
      | inl e => rfl
      | inr p3 => rfl
theorem c_readPorts {d : Nat} {E : Nat → Nat → Int} (hB : bsR f N E) (hv : vwR f N E 0) (hL : lgR E 16 z1T) : ∃ E' z, frD E E' ∧ am_sem (d + 4) 57 [.ref 15] am_S0 (dI E) = some (some (.int (iI z)), am_S0, dI E') ∧ cOu f N E' (poO f N) z := by
  have hf := hB.2.2.2
  obtain ⟨E1, a1, a2, a3, a4⟩ := c_expect (d := d) (c := 112) hB hv (by omega)
  have L1 := lgR_2 hL a1
  have B1 := bsR_D hB (fr2_D a1)
  unfold poO sgO
  by_cases g1 : tkC f N 0 = 112
  · rw [if_pos g1]
    rw [if_pos g1] at a2
    show ∃ E' z, _ ∧ _ ∧ cOu f N E' (bO (nuO f N (nxC f N 0) 2 6 (-1)) _) z
    obtain ⟨E2, x, b1, b2, b3⟩ := c_number (d := d) (lo := 2) (hi := 6) (no := -1000000) B1 (a3 g1) (by omega) (by omega) (by omega)
    rw [nuO_no hf (show (-1000000 : Int) < 0 by omega) (show (-1 : Int) < 0 by omega)] at b3
    have L2 := lgR_2 L1 b1
    have B2 := bsR_D B1 (fr2_D b1)
    rcases b3 with ⟨e, o1, o2, o3, o4⟩ | ⟨q, o1, o2, o3, o4, o5, -, o6⟩
    · rw [o1]
      refine ⟨E2, 0, frD_t (fr2_D a1) (fr2_D b1), mX4_readPorts rfl rfl (by exact Or.inl rfl) ?_, Or.inl ⟨e, rfl, rfl, o3, o4⟩⟩
      simp (disch := first | omega | simp only [am_ci, am_cr, am_ca]) only [eX4_readPorts_0, eX4_readPorts_1, eX4_readPorts_3, eX4_readPorts_6, eX4_readPorts_9, eX4_readPorts_10, eX4_readPorts_11, eX4_readPorts_12, eX4_readPorts_13, eX4_readPorts_15, eX4_readPorts_17, eX4_readPorts_20, eX4_readPorts_21, eX4_readPorts_22, eX4_readPorts_25, eX4_readPorts_26, eX4_readPorts_27, eX4_readPorts_28, eX4_readPorts_31, eX4_readPorts_32, eX4_readPorts_35, eX4_readPorts_36, eX4_readPorts_38, eX4_readPorts_41, am_bi, Int.reduceEq, Int.reduceLT, Int.reduceLE, Int.reduceToNat, ite_self, Decidable.not_not, not_true_eq_false, not_false_eq_true, ↓reduceIte, am_ci, am_cr, am_ca, am_b0, am_b1, am_ts, am_tn, am_then_some, List.cons_append, List.nil_append, ne_eq, iI_lit, iI_add, iI_sub, iI_mul, iI_neg, iI_lt, iI_le, iI_eq, iI_in, iI_clz, dI_ap, dI_wr, setR_s, wE_R, setR_2, setR_n, setR_o, updI_s, updI_n, updI_2, tl_0, tl_1, tl_2, tl_3, tl_4, tl_5, tl_6, tl_7, tl_8, tl_9, tl_10, tl_11, tl_12, tl_13, tl_14, tl_15, tl_16, tn_3, tn_5, tn_13, tn_21, tn_29, tn_33, tn_37, tn_41, tn_45, tn_49, tn_53, tn_57, tn_61, tn_40, tn_p, tn_0, true_and, and_true, sk_0, sk_1, sk_2, sl_2, sk_3, sl_3, sk_4, sl_4, sk_5, sl_5, sk_6, sl_6, sk_7, sl_7, sk_8, sl_8, sk_9, sl_9, sk_10, sl_10, sk_11, sl_11, sk_12, sl_12, sk_13, sk_14, sl_14, sk_15, sk_40, sk_41, sl_41, sk_330, sl_330, sk_355, sk_356, sl_356, sk_357, sl_357, sk_358, sl_358, sk_359, sl_359, sk_360, sl_360, sk_361, sk_362, sl_362, sk_363, sk_376, sk_377, sl_377, sk_378, sk_379, sl_379, sk_380, sl_380, sk_381, sl_381, sk_382, sl_382, sk_383, sl_383, sk_384, sl_384, sk_385, sl_385, sk_386, sl_386, sk_387, sl_387, sk_388, sl_388, sk_389, sl_389, sk_390, sl_390, sk_391, sl_391, sk_392, sl_392, sk_393, sl_393, sk_394, sl_394, sr_0_0, sr_0_1, sr_0_2, sr_0_3, sr_0_4, sr_0_5, sr_0_6, sr_0_7, sr_0_8, sr_0_9, sr_1_0, sr_1_1, sr_1_2, sr_13_0, sr_15_0, sr_15_2, sr_40_0, sr_355_0, sr_355_1, sr_355_2, sr_355_3, sr_355_4, sr_355_5, sr_361_2, sr_361_5, sr_361_6, sr_363_0, sr_363_1, sr_376_0, sr_376_2, sr_378_0, sr_378_1, sr_378_2, sr_378_4, sr_378_8, sr_378_10, sr_378_11, sr_378_12, sr_378_14, sr_378_20, sr_378_21, sr_378_22, sr_378_23, sr_378_24, sr_378_25, sr_378_26, am_vs, a2, b2, o2]
      all_goals ((repeat' split) <;> first | rfl | trivial | (exfalso; omega))
    · rw [o1]
      show ∃ E' z, _ ∧ _ ∧ cOu f N E' (bO (if tkC f N q = 59 then _ else _) _) z
      have L3 : lgR (setR E2 16 (updI (E2 16) 0 x)) 16 (updI z1T 0 x) := ⟨RL0_p0 L2.1, fun s hs hs2 => by
        rw [updI_n (by omega)] at hs2
        exact absurd hs2 (show ¬ (s : Int) < 0 by omega)⟩
      have F3 : frD E2 (setR E2 16 (updI (E2 16) 0 x)) := ⟨fun b hb => setR_n (by omega), by rw [setR_n (by omega)]⟩
      have V3 : vwR f N (setR E2 16 (updI (E2 16) 0 x)) q := by unfold vwR; rw [setR_n (by omega)]; exact o6
      obtain ⟨E4, d1, d2, d3, d4⟩ := c_expect (d := d) (c := 59) (bsR_D B2 F3) V3 (by omega)
      have fr4 : frD E E4 := frD_t (frD_t (frD_t (fr2_D a1) (fr2_D b1)) F3) (fr2_D d1)
      by_cases g2 : tkC f N q = 59
      · rw [if_pos g2]
        rw [if_pos g2] at d2
        refine ⟨E4, 1, fr4, mX4_readPorts rfl rfl (by exact Or.inr rfl) ?_, Or.inr ⟨updI z1T 0 x, nxC f N q, rfl, rfl, lgR_2 L3 d1, d3 g2⟩⟩
        simp (disch := first | omega | simp only [am_ci, am_cr, am_ca]) only [eX4_readPorts_0, eX4_readPorts_1, eX4_readPorts_3, eX4_readPorts_6, eX4_readPorts_9, eX4_readPorts_10, eX4_readPorts_11, eX4_readPorts_12, eX4_readPorts_13, eX4_readPorts_15, eX4_readPorts_17, eX4_readPorts_20, eX4_readPorts_21, eX4_readPorts_22, eX4_readPorts_25, eX4_readPorts_26, eX4_readPorts_27, eX4_readPorts_28, eX4_readPorts_31, eX4_readPorts_32, eX4_readPorts_35, eX4_readPorts_36, eX4_readPorts_38, eX4_readPorts_41, am_bi, Int.reduceEq, Int.reduceLT, Int.reduceLE, Int.reduceToNat, ite_self, Decidable.not_not, not_true_eq_false, not_false_eq_true, ↓reduceIte, am_ci, am_cr, am_ca, am_b0, am_b1, am_ts, am_tn, am_then_some, List.cons_append, List.nil_append, ne_eq, iI_lit, iI_add, iI_sub, iI_mul, iI_neg, iI_lt, iI_le, iI_eq, iI_in, iI_clz, dI_ap, dI_wr, setR_s, wE_R, setR_2, setR_n, setR_o, updI_s, updI_n, updI_2, tl_0, tl_1, tl_2, tl_3, tl_4, tl_5, tl_6, tl_7, tl_8, tl_9, tl_10, tl_11, tl_12, tl_13, tl_14, tl_15, tl_16, tn_3, tn_5, tn_13, tn_21, tn_29, tn_33, tn_37, tn_41, tn_45, tn_49, tn_53, tn_57, tn_61, tn_40, tn_p, tn_0, true_and, and_true, sk_0, sk_1, sk_2, sl_2, sk_3, sl_3, sk_4, sl_4, sk_5, sl_5, sk_6, sl_6, sk_7, sl_7, sk_8, sl_8, sk_9, sl_9, sk_10, sl_10, sk_11, sl_11, sk_12, sl_12, sk_13, sk_14, sl_14, sk_15, sk_40, sk_41, sl_41, sk_330, sl_330, sk_355, sk_356, sl_356, sk_357, sl_357, sk_358, sl_358, sk_359, sl_359, sk_360, sl_360, sk_361, sk_362, sl_362, sk_363, sk_376, sk_377, sl_377, sk_378, sk_379, sl_379, sk_380, sl_380, sk_381, sl_381, sk_382, sl_382, sk_383, sl_383, sk_384, sl_384, sk_385, sl_385, sk_386, sl_386, sk_387, sl_387, sk_388, sl_388, sk_389, sl_389, sk_390, sl_390, sk_391, sl_391, sk_392, sl_392, sk_393, sl_393, sk_394, sl_394, sr_0_0, sr_0_1, sr_0_2, sr_0_3, sr_0_4, sr_0_5, sr_0_6, sr_0_7, sr_0_8, sr_0_9, sr_1_0, sr_1_1, sr_1_2, sr_13_0, sr_15_0, sr_15_2, sr_40_0, sr_355_0, sr_355_1, sr_355_2, sr_355_3, sr_355_4, sr_355_5, sr_361_2, sr_361_5, sr_361_6, sr_363_0, sr_363_1, sr_376_0, sr_376_2, sr_378_0, sr_378_1, sr_378_2, sr_378_4, sr_378_8, sr_378_10, sr_378_11, sr_378_12, sr_378_14, sr_378_20, sr_378_21, sr_378_22, sr_378_23, sr_378_24, sr_378_25, sr_378_26, am_vs, a2, b2, am_lg16.k, d2]
        repeat (first | rw [if_pos (by omega)] | rw [if_neg (by omega)])
        trivial
      · rw [if_neg g2]
        rw [if_neg g2] at d2
        refine ⟨E4, 0, fr4, mX4_readPorts rfl rfl (by exact Or.inl rfl) ?_, Or.inl ⟨(1, q), rfl, rfl, (d4 g2).1, (d4 g2).2⟩⟩
        simp (disch := first | omega | simp only [am_ci, am_cr, am_ca]) only [eX4_readPorts_0, eX4_readPorts_1, eX4_readPorts_3, eX4_readPorts_6, eX4_readPorts_9, eX4_readPorts_10, eX4_readPorts_11, eX4_readPorts_12, eX4_readPorts_13, eX4_readPorts_15, eX4_readPorts_17, eX4_readPorts_20, eX4_readPorts_21, eX4_readPorts_22, eX4_readPorts_25, eX4_readPorts_26, eX4_readPorts_27, eX4_readPorts_28, eX4_readPorts_31, eX4_readPorts_32, eX4_readPorts_35, eX4_readPorts_36, eX4_readPorts_38, eX4_readPorts_41, am_bi, Int.reduceEq, Int.reduceLT, Int.reduceLE, Int.reduceToNat, ite_self, Decidable.not_not, not_true_eq_false, not_false_eq_true, ↓reduceIte, am_ci, am_cr, am_ca, am_b0, am_b1, am_ts, am_tn, am_then_some, List.cons_append, List.nil_append, ne_eq, iI_lit, iI_add, iI_sub, iI_mul, iI_neg, iI_lt, iI_le, iI_eq, iI_in, iI_clz, dI_ap, dI_wr, setR_s, wE_R, setR_2, setR_n, setR_o, updI_s, updI_n, updI_2, tl_0, tl_1, tl_2, tl_3, tl_4, tl_5, tl_6, tl_7, tl_8, tl_9, tl_10, tl_11, tl_12, tl_13, tl_14, tl_15, tl_16, tn_3, tn_5, tn_13, tn_21, tn_29, tn_33, tn_37, tn_41, tn_45, tn_49, tn_53, tn_57, tn_61, tn_40, tn_p, tn_0, true_and, and_true, sk_0, sk_1, sk_2, sl_2, sk_3, sl_3, sk_4, sl_4, sk_5, sl_5, sk_6, sl_6, sk_7, sl_7, sk_8, sl_8, sk_9, sl_9, sk_10, sl_10, sk_11, sl_11, sk_12, sl_12, sk_13, sk_14, sl_14, sk_15, sk_40, sk_41, sl_41, sk_330, sl_330, sk_355, sk_356, sl_356, sk_357, sl_357, sk_358, sl_358, sk_359, sl_359, sk_360, sl_360, sk_361, sk_362, sl_362, sk_363, sk_376, sk_377, sl_377, sk_378, sk_379, sl_379, sk_380, sl_380, sk_381, sl_381, sk_382, sl_382, sk_383, sl_383, sk_384, sl_384, sk_385, sl_385, sk_386, sl_386, sk_387, sl_387, sk_388, sl_388, sk_389, sl_389, sk_390, sl_390, sk_391, sl_391, sk_392, sl_392, sk_393, sl_393, sk_394, sl_394, sr_0_0, sr_0_1, sr_0_2, sr_0_3, sr_0_4, sr_0_5, sr_0_6, sr_0_7, sr_0_8, sr_0_9, sr_1_0, sr_1_1, sr_1_2, sr_13_0, sr_15_0, sr_15_2, sr_40_0, sr_355_0, sr_355_1, sr_355_2, sr_355_3, sr_355_4, sr_355_5, sr_361_2, sr_361_5, sr_361_6, sr_363_0, sr_363_1, sr_376_0, sr_376_2, sr_378_0, sr_378_1, sr_378_2, sr_378_4, sr_378_8, sr_378_10, sr_378_11, sr_378_12, sr_378_14, sr_378_20, sr_378_21, sr_378_22, sr_378_23, sr_378_24, sr_378_25, sr_378_26, am_vs, a2, b2, am_lg16.k, d2]
        repeat (first | rw [if_pos (by omega)] | rw [if_neg (by omega)])
        trivial
  · rw [if_neg g1]
    rw [if_neg g1] at a2
    refine ⟨E1, 0, fr2_D a1, mX4_readPorts rfl rfl (by exact Or.inl rfl) ?_, Or.inl ⟨(1, 0), rfl, rfl, (a4 g1).1, (a4 g1).2⟩⟩
    simp (disch := first | omega | simp only [am_ci, am_cr, am_ca]) only [eX4_readPorts_0, eX4_readPorts_1, eX4_readPorts_3, eX4_readPorts_6, eX4_readPorts_9, eX4_readPorts_10, eX4_readPorts_11, eX4_readPorts_12, eX4_readPorts_13, eX4_readPorts_15, eX4_readPorts_17, eX4_readPorts_20, eX4_readPorts_21, eX4_readPorts_22, eX4_readPorts_25, eX4_readPorts_26, eX4_readPorts_27, eX4_readPorts_28, eX4_readPorts_31, eX4_readPorts_32, eX4_readPorts_35, eX4_readPorts_36, eX4_readPorts_38, eX4_readPorts_41, am_bi, Int.reduceEq, Int.reduceLT, Int.reduceLE, Int.reduceToNat, ite_self, Decidable.not_not, not_true_eq_false, not_false_eq_true, ↓reduceIte, am_ci, am_cr, am_ca, am_b0, am_b1, am_ts, am_tn, am_then_some, List.cons_append, List.nil_append, ne_eq, iI_lit, iI_add, iI_sub, iI_mul, iI_neg, iI_lt, iI_le, iI_eq, iI_in, iI_clz, dI_ap, dI_wr, setR_s, wE_R, setR_2, setR_n, setR_o, updI_s, updI_n, updI_2, tl_0, tl_1, tl_2, tl_3, tl_4, tl_5, tl_6, tl_7, tl_8, tl_9, tl_10, tl_11, tl_12, tl_13, tl_14, tl_15, tl_16, tn_3, tn_5, tn_13, tn_21, tn_29, tn_33, tn_37, tn_41, tn_45, tn_49, tn_53, tn_57, tn_61, tn_40, tn_p, tn_0, true_and, and_true, sk_0, sk_1, sk_2, sl_2, sk_3, sl_3, sk_4, sl_4, sk_5, sl_5, sk_6, sl_6, sk_7, sl_7, sk_8, sl_8, sk_9, sl_9, sk_10, sl_10, sk_11, sl_11, sk_12, sl_12, sk_13, sk_14, sl_14, sk_15, sk_40, sk_41, sl_41, sk_330, sl_330, sk_355, sk_356, sl_356, sk_357, sl_357, sk_358, sl_358, sk_359, sl_359, sk_360, sl_360, sk_361, sk_362, sl_362, sk_363, sk_376, sk_377, sl_377, sk_378, sk_379, sl_379, sk_380, sl_380, sk_381, sl_381, sk_382, sl_382, sk_383, sl_383, sk_384, sl_384, sk_385, sl_385, sk_386, sl_386, sk_387, sl_387, sk_388, sl_388, sk_389, sl_389, sk_390, sl_390, sk_391, sl_391, sk_392, sl_392, sk_393, sl_393, sk_394, sl_394, sr_0_0, sr_0_1, sr_0_2, sr_0_3, sr_0_4, sr_0_5, sr_0_6, sr_0_7, sr_0_8, sr_0_9, sr_1_0, sr_1_1, sr_1_2, sr_13_0, sr_15_0, sr_15_2, sr_40_0, sr_355_0, sr_355_1, sr_355_2, sr_355_3, sr_355_4, sr_355_5, sr_361_2, sr_361_5, sr_361_6, sr_363_0, sr_363_1, sr_376_0, sr_376_2, sr_378_0, sr_378_1, sr_378_2, sr_378_4, sr_378_8, sr_378_10, sr_378_11, sr_378_12, sr_378_14, sr_378_20, sr_378_21, sr_378_22, sr_378_23, sr_378_24, sr_378_25, sr_378_26, am_vs, a2]
    all_goals ((repeat' split) <;> first | rfl | trivial | (exfalso; omega))
theorem c_readWhole {d : Nat} {E : Nat → Nat → Int} (hB : bsR f N E) : ∃ E' z, frD E E' ∧ am_sem (d + 6) 56 [.ref 15] am_S0 (dI E) = some (some (.int (iI z)), am_S0, dI E') ∧ ((∃ e, prO f N = .inl e ∧ z = 0 ∧ E' 15 1 = e.1 ∧ E' 13 4 = (e.2 : Int)) ∨ (∃ t, prO f N = .inr t ∧ z = 1 ∧ lgR E' 16 t)) := by
  have H1 := c_clear (d := d + 3) (a := 16) (E := E) am_lg16
  obtain ⟨c1, c2, c3⟩ := RL0_cl E 16
  have L0 : lgR (clE E 16) 16 z1T := ⟨RL0_cg c1 z1_z0, fun s hs hs2 => absurd hs2 (show ¬ (s : Int) < 0 by omega)⟩
  have F0 : frD E (clE E 16) := ⟨fun b hb => c3 b (by omega), by rw [c3 13 (by omega)]⟩
  have B0 := bsR_D hB F0
  have F1 : frD (clE E 16) (setR (clE E 16) 13 (updI (clE E 16 13) 5 0)) := ⟨fun b hb => setR_n (by omega), by rw [setR_s, updI_n (by omega)]⟩
  obtain ⟨E2, a1, -, a2, a3⟩ := c_stepV (d := d + 2) (p := 0) (bsR_D B0 F1) (by rw [setR_s, updI_s]; rfl) (by omega)
  have HR : am_sem (d + 5) 81 [.ref 13] am_S0 (dI (clE E 16)) = some (none, am_S0, dI E2) := by
    refine mX7_rewind rfl rfl ?_
    simp (disch := first | omega | simp only [am_ci, am_cr, am_ca]) only [eX7_rewind_0, eX7_rewind_1, eX7_rewind_2, eX7_rewind_5, eX7_rewind_6, eX7_rewind_9, am_bi, Int.reduceEq, Int.reduceLT, Int.reduceLE, Int.reduceToNat, ite_self, Decidable.not_not, not_true_eq_false, not_false_eq_true, ↓reduceIte, am_ci, am_cr, am_ca, am_b0, am_b1, am_ts, am_tn, am_then_some, List.cons_append, List.nil_append, ne_eq, iI_lit, iI_add, iI_sub, iI_mul, iI_neg, iI_lt, iI_le, iI_eq, iI_in, iI_clz, dI_ap, dI_wr, setR_s, wE_R, setR_2, setR_n, setR_o, updI_s, updI_n, updI_2, tl_0, tl_1, tl_2, tl_3, tl_4, tl_5, tl_6, tl_7, tl_8, tl_9, tl_10, tl_11, tl_12, tl_13, tl_14, tl_15, tl_16, tn_3, tn_5, tn_13, tn_21, tn_29, tn_33, tn_37, tn_41, tn_45, tn_49, tn_53, tn_57, tn_61, tn_40, tn_p, tn_0, true_and, and_true, sk_0, sk_1, sk_2, sl_2, sk_3, sl_3, sk_4, sl_4, sk_5, sl_5, sk_6, sl_6, sk_7, sl_7, sk_8, sl_8, sk_9, sl_9, sk_10, sl_10, sk_11, sl_11, sk_12, sl_12, sk_13, sk_14, sl_14, sk_15, sk_40, sk_41, sl_41, sk_330, sl_330, sk_355, sk_356, sl_356, sk_357, sl_357, sk_358, sl_358, sk_359, sl_359, sk_360, sl_360, sk_361, sk_362, sl_362, sk_363, sk_376, sk_377, sl_377, sk_378, sk_379, sl_379, sk_380, sl_380, sk_381, sl_381, sk_382, sl_382, sk_383, sl_383, sk_384, sl_384, sk_385, sl_385, sk_386, sl_386, sk_387, sl_387, sk_388, sl_388, sk_389, sl_389, sk_390, sl_390, sk_391, sl_391, sk_392, sl_392, sk_393, sl_393, sk_394, sl_394, sr_0_0, sr_0_1, sr_0_2, sr_0_3, sr_0_4, sr_0_5, sr_0_6, sr_0_7, sr_0_8, sr_0_9, sr_1_0, sr_1_1, sr_1_2, sr_13_0, sr_15_0, sr_15_2, sr_40_0, sr_355_0, sr_355_1, sr_355_2, sr_355_3, sr_355_4, sr_355_5, sr_361_2, sr_361_5, sr_361_6, sr_363_0, sr_363_1, sr_376_0, sr_376_2, sr_378_0, sr_378_1, sr_378_2, sr_378_4, sr_378_8, sr_378_10, sr_378_11, sr_378_12, sr_378_14, sr_378_20, sr_378_21, sr_378_22, sr_378_23, sr_378_24, sr_378_25, sr_378_26, am_vs, a3]
  have L2 : lgR E2 16 z1T := lgR_2 (lgR_fr L0 (fun b h1 h2 => setR_n (by omega))) a1
  have B2 := bsR_D (bsR_D B0 F1) (fr2_D a1)
  have F2 : frD E E2 := frD_t (frD_t F0 F1) (fr2_D a1)
  obtain ⟨E3, z3, b1, b2, b3⟩ := c_readPorts (d := d + 1) B2 a2 L2
  have F3 : frD E E3 := frD_t F2 b1
  rw [prO_po]
  rcases b3 with ⟨e, o1, o2, o3, o4⟩ | ⟨t, q, o1, o2, o3, o4⟩
  · rw [o1]
    subst o2
    refine ⟨E3, 0, F3, mX4_readWhole rfl rfl (by exact Or.inl rfl) ?_, Or.inl ⟨e, rfl, rfl, o3, o4⟩⟩
    simp (disch := first | omega | simp only [am_ci, am_cr, am_ca]) only [eX4_readWhole_0, eX4_readWhole_1, eX4_readWhole_4, eX4_readWhole_7, eX4_readWhole_8, eX4_readWhole_11, eX4_readWhole_14, eX4_readWhole_15, eX4_readWhole_18, eX4_readWhole_21, eX4_readWhole_22, eX4_readWhole_25, eX4_readWhole_28, eX4_readWhole_29, eX4_readWhole_32, eX4_readWhole_35, eX4_readWhole_36, eX4_readWhole_39, eX4_readWhole_42, eX4_readWhole_45, eX4_readWhole_46, eX4_readWhole_49, eX4_readWhole_50, am_bi, Int.reduceEq, Int.reduceLT, Int.reduceLE, Int.reduceToNat, ite_self, Decidable.not_not, not_true_eq_false, not_false_eq_true, ↓reduceIte, am_ci, am_cr, am_ca, am_b0, am_b1, am_ts, am_tn, am_then_some, List.cons_append, List.nil_append, ne_eq, iI_lit, iI_add, iI_sub, iI_mul, iI_neg, iI_lt, iI_le, iI_eq, iI_in, iI_clz, dI_ap, dI_wr, setR_s, wE_R, setR_2, setR_n, setR_o, updI_s, updI_n, updI_2, tl_0, tl_1, tl_2, tl_3, tl_4, tl_5, tl_6, tl_7, tl_8, tl_9, tl_10, tl_11, tl_12, tl_13, tl_14, tl_15, tl_16, tn_3, tn_5, tn_13, tn_21, tn_29, tn_33, tn_37, tn_41, tn_45, tn_49, tn_53, tn_57, tn_61, tn_40, tn_p, tn_0, true_and, and_true, sk_0, sk_1, sk_2, sl_2, sk_3, sl_3, sk_4, sl_4, sk_5, sl_5, sk_6, sl_6, sk_7, sl_7, sk_8, sl_8, sk_9, sl_9, sk_10, sl_10, sk_11, sl_11, sk_12, sl_12, sk_13, sk_14, sl_14, sk_15, sk_40, sk_41, sl_41, sk_330, sl_330, sk_355, sk_356, sl_356, sk_357, sl_357, sk_358, sl_358, sk_359, sl_359, sk_360, sl_360, sk_361, sk_362, sl_362, sk_363, sk_376, sk_377, sl_377, sk_378, sk_379, sl_379, sk_380, sl_380, sk_381, sl_381, sk_382, sl_382, sk_383, sl_383, sk_384, sl_384, sk_385, sl_385, sk_386, sl_386, sk_387, sl_387, sk_388, sl_388, sk_389, sl_389, sk_390, sl_390, sk_391, sl_391, sk_392, sl_392, sk_393, sl_393, sk_394, sl_394, sr_0_0, sr_0_1, sr_0_2, sr_0_3, sr_0_4, sr_0_5, sr_0_6, sr_0_7, sr_0_8, sr_0_9, sr_1_0, sr_1_1, sr_1_2, sr_13_0, sr_15_0, sr_15_2, sr_40_0, sr_355_0, sr_355_1, sr_355_2, sr_355_3, sr_355_4, sr_355_5, sr_361_2, sr_361_5, sr_361_6, sr_363_0, sr_363_1, sr_376_0, sr_376_2, sr_378_0, sr_378_1, sr_378_2, sr_378_4, sr_378_8, sr_378_10, sr_378_11, sr_378_12, sr_378_14, sr_378_20, sr_378_21, sr_378_22, sr_378_23, sr_378_24, sr_378_25, sr_378_26, am_vs, am_lg16.k, H1, HR, b2]
    all_goals ((repeat' split) <;> first | rfl | trivial | (exfalso; omega))
  · have rT : rdI t ∧ t 1 = 0 ∧ t 2 = 0 := by
      have ho := o1
      unfold poO at ho
      cases h1 : sgO f N 0 112 with
      | inl e => rw [h1] at ho; cases ho
      | inr p1 =>
        rw [h1] at ho
        change bO (nuO f N p1 2 6 (-1)) _ = _ at ho
        cases h2 : nuO f N p1 2 6 (-1) with
        | inl e => rw [h2] at ho; cases ho
        | inr a =>
          rw [h2] at ho
          change bO (sgO f N a.2 59) _ = _ at ho
          cases h3 : sgO f N a.2 59 with
          | inl e => rw [h3] at ho; cases ho
          | inr p3 =>
            rw [h3] at ho
            cases ho
            have ra := nuO_r h2
            exact ⟨rdI_z1 ⟨ra.1, ra.2.1⟩, rfl, rfl⟩
    rw [o1]
    subst o2
    show ∃ E' z, _ ∧ _ ∧ ((∃ e, bO (waO f N 8 t q) _ = _ ∧ _) ∨ (∃ u, bO (waO f N 8 t q) _ = _ ∧ _))
    obtain ⟨E4, z4, d1, d2, d3⟩ := c_readWays (d := d) (bsR_D B2 b1) o4 o3 rT.1 rT.2.1
    rcases d3 with ⟨e, u1, u2, u3, u4⟩ | ⟨w, r, u1, u2, u3, u4⟩
    · rw [u1]
      subst u2
      refine ⟨E4, 0, frD_t F3 d1, mX4_readWhole rfl rfl (by exact Or.inl rfl) ?_, Or.inl ⟨e, rfl, rfl, u3, u4⟩⟩
      simp (disch := first | omega | simp only [am_ci, am_cr, am_ca]) only [eX4_readWhole_0, eX4_readWhole_1, eX4_readWhole_4, eX4_readWhole_7, eX4_readWhole_8, eX4_readWhole_11, eX4_readWhole_14, eX4_readWhole_15, eX4_readWhole_18, eX4_readWhole_21, eX4_readWhole_22, eX4_readWhole_25, eX4_readWhole_28, eX4_readWhole_29, eX4_readWhole_32, eX4_readWhole_35, eX4_readWhole_36, eX4_readWhole_39, eX4_readWhole_42, eX4_readWhole_45, eX4_readWhole_46, eX4_readWhole_49, eX4_readWhole_50, am_bi, Int.reduceEq, Int.reduceLT, Int.reduceLE, Int.reduceToNat, ite_self, Decidable.not_not, not_true_eq_false, not_false_eq_true, ↓reduceIte, am_ci, am_cr, am_ca, am_b0, am_b1, am_ts, am_tn, am_then_some, List.cons_append, List.nil_append, ne_eq, iI_lit, iI_add, iI_sub, iI_mul, iI_neg, iI_lt, iI_le, iI_eq, iI_in, iI_clz, dI_ap, dI_wr, setR_s, wE_R, setR_2, setR_n, setR_o, updI_s, updI_n, updI_2, tl_0, tl_1, tl_2, tl_3, tl_4, tl_5, tl_6, tl_7, tl_8, tl_9, tl_10, tl_11, tl_12, tl_13, tl_14, tl_15, tl_16, tn_3, tn_5, tn_13, tn_21, tn_29, tn_33, tn_37, tn_41, tn_45, tn_49, tn_53, tn_57, tn_61, tn_40, tn_p, tn_0, true_and, and_true, sk_0, sk_1, sk_2, sl_2, sk_3, sl_3, sk_4, sl_4, sk_5, sl_5, sk_6, sl_6, sk_7, sl_7, sk_8, sl_8, sk_9, sl_9, sk_10, sl_10, sk_11, sl_11, sk_12, sl_12, sk_13, sk_14, sl_14, sk_15, sk_40, sk_41, sl_41, sk_330, sl_330, sk_355, sk_356, sl_356, sk_357, sl_357, sk_358, sl_358, sk_359, sl_359, sk_360, sl_360, sk_361, sk_362, sl_362, sk_363, sk_376, sk_377, sl_377, sk_378, sk_379, sl_379, sk_380, sl_380, sk_381, sl_381, sk_382, sl_382, sk_383, sl_383, sk_384, sl_384, sk_385, sl_385, sk_386, sl_386, sk_387, sl_387, sk_388, sl_388, sk_389, sl_389, sk_390, sl_390, sk_391, sl_391, sk_392, sl_392, sk_393, sl_393, sk_394, sl_394, sr_0_0, sr_0_1, sr_0_2, sr_0_3, sr_0_4, sr_0_5, sr_0_6, sr_0_7, sr_0_8, sr_0_9, sr_1_0, sr_1_1, sr_1_2, sr_13_0, sr_15_0, sr_15_2, sr_40_0, sr_355_0, sr_355_1, sr_355_2, sr_355_3, sr_355_4, sr_355_5, sr_361_2, sr_361_5, sr_361_6, sr_363_0, sr_363_1, sr_376_0, sr_376_2, sr_378_0, sr_378_1, sr_378_2, sr_378_4, sr_378_8, sr_378_10, sr_378_11, sr_378_12, sr_378_14, sr_378_20, sr_378_21, sr_378_22, sr_378_23, sr_378_24, sr_378_25, sr_378_26, am_vs, am_lg16.k, H1, HR, b2, d2]
      all_goals ((repeat' split) <;> first | rfl | trivial | (exfalso; omega))
    · have rW := waO_r 8 0 t q (by omega) rT.1 rT.2.1 u1
      rw [u1]
      subst u2
      show ∃ E' z, _ ∧ _ ∧ ((∃ e, bO (shO f N 4 w r) _ = _ ∧ _) ∨ (∃ u, bO (shO f N 4 w r) _ = _ ∧ _))
      obtain ⟨E5, z5, e1, e2, e3⟩ := c_readShips (d := d) (bsR_D (bsR_D B2 b1) d1) u4 u3 rW.1 (by have h9 := rW.2; simp only at h9; rw [h9]; exact rT.2.2)
      rcases e3 with ⟨e, w1, w2, w3, w4⟩ | ⟨s, v, w1, w2, w3, w4⟩
      · rw [w1]
        subst w2
        refine ⟨E5, 0, frD_t (frD_t F3 d1) e1, mX4_readWhole rfl rfl (by exact Or.inl rfl) ?_, Or.inl ⟨e, rfl, rfl, w3, w4⟩⟩
        simp (disch := first | omega | simp only [am_ci, am_cr, am_ca]) only [eX4_readWhole_0, eX4_readWhole_1, eX4_readWhole_4, eX4_readWhole_7, eX4_readWhole_8, eX4_readWhole_11, eX4_readWhole_14, eX4_readWhole_15, eX4_readWhole_18, eX4_readWhole_21, eX4_readWhole_22, eX4_readWhole_25, eX4_readWhole_28, eX4_readWhole_29, eX4_readWhole_32, eX4_readWhole_35, eX4_readWhole_36, eX4_readWhole_39, eX4_readWhole_42, eX4_readWhole_45, eX4_readWhole_46, eX4_readWhole_49, eX4_readWhole_50, am_bi, Int.reduceEq, Int.reduceLT, Int.reduceLE, Int.reduceToNat, ite_self, Decidable.not_not, not_true_eq_false, not_false_eq_true, ↓reduceIte, am_ci, am_cr, am_ca, am_b0, am_b1, am_ts, am_tn, am_then_some, List.cons_append, List.nil_append, ne_eq, iI_lit, iI_add, iI_sub, iI_mul, iI_neg, iI_lt, iI_le, iI_eq, iI_in, iI_clz, dI_ap, dI_wr, setR_s, wE_R, setR_2, setR_n, setR_o, updI_s, updI_n, updI_2, tl_0, tl_1, tl_2, tl_3, tl_4, tl_5, tl_6, tl_7, tl_8, tl_9, tl_10, tl_11, tl_12, tl_13, tl_14, tl_15, tl_16, tn_3, tn_5, tn_13, tn_21, tn_29, tn_33, tn_37, tn_41, tn_45, tn_49, tn_53, tn_57, tn_61, tn_40, tn_p, tn_0, true_and, and_true, sk_0, sk_1, sk_2, sl_2, sk_3, sl_3, sk_4, sl_4, sk_5, sl_5, sk_6, sl_6, sk_7, sl_7, sk_8, sl_8, sk_9, sl_9, sk_10, sl_10, sk_11, sl_11, sk_12, sl_12, sk_13, sk_14, sl_14, sk_15, sk_40, sk_41, sl_41, sk_330, sl_330, sk_355, sk_356, sl_356, sk_357, sl_357, sk_358, sl_358, sk_359, sl_359, sk_360, sl_360, sk_361, sk_362, sl_362, sk_363, sk_376, sk_377, sl_377, sk_378, sk_379, sl_379, sk_380, sl_380, sk_381, sl_381, sk_382, sl_382, sk_383, sl_383, sk_384, sl_384, sk_385, sl_385, sk_386, sl_386, sk_387, sl_387, sk_388, sl_388, sk_389, sl_389, sk_390, sl_390, sk_391, sl_391, sk_392, sl_392, sk_393, sl_393, sk_394, sl_394, sr_0_0, sr_0_1, sr_0_2, sr_0_3, sr_0_4, sr_0_5, sr_0_6, sr_0_7, sr_0_8, sr_0_9, sr_1_0, sr_1_1, sr_1_2, sr_13_0, sr_15_0, sr_15_2, sr_40_0, sr_355_0, sr_355_1, sr_355_2, sr_355_3, sr_355_4, sr_355_5, sr_361_2, sr_361_5, sr_361_6, sr_363_0, sr_363_1, sr_376_0, sr_376_2, sr_378_0, sr_378_1, sr_378_2, sr_378_4, sr_378_8, sr_378_10, sr_378_11, sr_378_12, sr_378_14, sr_378_20, sr_378_21, sr_378_22, sr_378_23, sr_378_24, sr_378_25, sr_378_26, am_vs, am_lg16.k, H1, HR, b2, d2, e2]
        all_goals ((repeat' split) <;> first | rfl | trivial | (exfalso; omega))
      · rw [w1]
        subst w2
        show ∃ E' z, _ ∧ _ ∧ ((∃ e, (if tkC f N v = 257 then _ else _) = _ ∧ _) ∨ (∃ u, (if tkC f N v = 257 then _ else _) = _ ∧ _))
        obtain ⟨E6, i1, i2, i3, i4⟩ := c_expect (d := d + 2) (c := 257) (bsR_D (bsR_D (bsR_D B2 b1) d1) e1) w4 (by omega)
        have F6 : frD E E6 := frD_t (frD_t (frD_t F3 d1) e1) (fr2_D i1)
        by_cases g : tkC f N v = 257
        · rw [if_pos g] at i2
          rw [if_pos g]
          refine ⟨E6, 1, F6, mX4_readWhole rfl rfl (by exact Or.inr rfl) ?_, Or.inr ⟨s, rfl, rfl, lgR_2 w3 i1⟩⟩
          simp (disch := first | omega | simp only [am_ci, am_cr, am_ca]) only [eX4_readWhole_0, eX4_readWhole_1, eX4_readWhole_4, eX4_readWhole_7, eX4_readWhole_8, eX4_readWhole_11, eX4_readWhole_14, eX4_readWhole_15, eX4_readWhole_18, eX4_readWhole_21, eX4_readWhole_22, eX4_readWhole_25, eX4_readWhole_28, eX4_readWhole_29, eX4_readWhole_32, eX4_readWhole_35, eX4_readWhole_36, eX4_readWhole_39, eX4_readWhole_42, eX4_readWhole_45, eX4_readWhole_46, eX4_readWhole_49, eX4_readWhole_50, am_bi, Int.reduceEq, Int.reduceLT, Int.reduceLE, Int.reduceToNat, ite_self, Decidable.not_not, not_true_eq_false, not_false_eq_true, ↓reduceIte, am_ci, am_cr, am_ca, am_b0, am_b1, am_ts, am_tn, am_then_some, List.cons_append, List.nil_append, ne_eq, iI_lit, iI_add, iI_sub, iI_mul, iI_neg, iI_lt, iI_le, iI_eq, iI_in, iI_clz, dI_ap, dI_wr, setR_s, wE_R, setR_2, setR_n, setR_o, updI_s, updI_n, updI_2, tl_0, tl_1, tl_2, tl_3, tl_4, tl_5, tl_6, tl_7, tl_8, tl_9, tl_10, tl_11, tl_12, tl_13, tl_14, tl_15, tl_16, tn_3, tn_5, tn_13, tn_21, tn_29, tn_33, tn_37, tn_41, tn_45, tn_49, tn_53, tn_57, tn_61, tn_40, tn_p, tn_0, true_and, and_true, sk_0, sk_1, sk_2, sl_2, sk_3, sl_3, sk_4, sl_4, sk_5, sl_5, sk_6, sl_6, sk_7, sl_7, sk_8, sl_8, sk_9, sl_9, sk_10, sl_10, sk_11, sl_11, sk_12, sl_12, sk_13, sk_14, sl_14, sk_15, sk_40, sk_41, sl_41, sk_330, sl_330, sk_355, sk_356, sl_356, sk_357, sl_357, sk_358, sl_358, sk_359, sl_359, sk_360, sl_360, sk_361, sk_362, sl_362, sk_363, sk_376, sk_377, sl_377, sk_378, sk_379, sl_379, sk_380, sl_380, sk_381, sl_381, sk_382, sl_382, sk_383, sl_383, sk_384, sl_384, sk_385, sl_385, sk_386, sl_386, sk_387, sl_387, sk_388, sl_388, sk_389, sl_389, sk_390, sl_390, sk_391, sl_391, sk_392, sl_392, sk_393, sl_393, sk_394, sl_394, sr_0_0, sr_0_1, sr_0_2, sr_0_3, sr_0_4, sr_0_5, sr_0_6, sr_0_7, sr_0_8, sr_0_9, sr_1_0, sr_1_1, sr_1_2, sr_13_0, sr_15_0, sr_15_2, sr_40_0, sr_355_0, sr_355_1, sr_355_2, sr_355_3, sr_355_4, sr_355_5, sr_361_2, sr_361_5, sr_361_6, sr_363_0, sr_363_1, sr_376_0, sr_376_2, sr_378_0, sr_378_1, sr_378_2, sr_378_4, sr_378_8, sr_378_10, sr_378_11, sr_378_12, sr_378_14, sr_378_20, sr_378_21, sr_378_22, sr_378_23, sr_378_24, sr_378_25, sr_378_26, am_vs, am_lg16.k, H1, HR, b2, d2, e2, i2]
          all_goals ((repeat' split) <;> first | rfl | trivial | (exfalso; omega))
        · rw [if_neg g] at i2
          rw [if_neg g]
          refine ⟨E6, 0, F6, mX4_readWhole rfl rfl (by exact Or.inl rfl) ?_, Or.inl ⟨(1, v), rfl, rfl, (i4 g).1, (i4 g).2⟩⟩
          simp (disch := first | omega | simp only [am_ci, am_cr, am_ca]) only [eX4_readWhole_0, eX4_readWhole_1, eX4_readWhole_4, eX4_readWhole_7, eX4_readWhole_8, eX4_readWhole_11, eX4_readWhole_14, eX4_readWhole_15, eX4_readWhole_18, eX4_readWhole_21, eX4_readWhole_22, eX4_readWhole_25, eX4_readWhole_28, eX4_readWhole_29, eX4_readWhole_32, eX4_readWhole_35, eX4_readWhole_36, eX4_readWhole_39, eX4_readWhole_42, eX4_readWhole_45, eX4_readWhole_46, eX4_readWhole_49, eX4_readWhole_50, am_bi, Int.reduceEq, Int.reduceLT, Int.reduceLE, Int.reduceToNat, ite_self, Decidable.not_not, not_true_eq_false, not_false_eq_true, ↓reduceIte, am_ci, am_cr, am_ca, am_b0, am_b1, am_ts, am_tn, am_then_some, List.cons_append, List.nil_append, ne_eq, iI_lit, iI_add, iI_sub, iI_mul, iI_neg, iI_lt, iI_le, iI_eq, iI_in, iI_clz, dI_ap, dI_wr, setR_s, wE_R, setR_2, setR_n, setR_o, updI_s, updI_n, updI_2, tl_0, tl_1, tl_2, tl_3, tl_4, tl_5, tl_6, tl_7, tl_8, tl_9, tl_10, tl_11, tl_12, tl_13, tl_14, tl_15, tl_16, tn_3, tn_5, tn_13, tn_21, tn_29, tn_33, tn_37, tn_41, tn_45, tn_49, tn_53, tn_57, tn_61, tn_40, tn_p, tn_0, true_and, and_true, sk_0, sk_1, sk_2, sl_2, sk_3, sl_3, sk_4, sl_4, sk_5, sl_5, sk_6, sl_6, sk_7, sl_7, sk_8, sl_8, sk_9, sl_9, sk_10, sl_10, sk_11, sl_11, sk_12, sl_12, sk_13, sk_14, sl_14, sk_15, sk_40, sk_41, sl_41, sk_330, sl_330, sk_355, sk_356, sl_356, sk_357, sl_357, sk_358, sl_358, sk_359, sl_359, sk_360, sl_360, sk_361, sk_362, sl_362, sk_363, sk_376, sk_377, sl_377, sk_378, sk_379, sl_379, sk_380, sl_380, sk_381, sl_381, sk_382, sl_382, sk_383, sl_383, sk_384, sl_384, sk_385, sl_385, sk_386, sl_386, sk_387, sl_387, sk_388, sl_388, sk_389, sl_389, sk_390, sl_390, sk_391, sl_391, sk_392, sl_392, sk_393, sl_393, sk_394, sl_394, sr_0_0, sr_0_1, sr_0_2, sr_0_3, sr_0_4, sr_0_5, sr_0_6, sr_0_7, sr_0_8, sr_0_9, sr_1_0, sr_1_1, sr_1_2, sr_13_0, sr_15_0, sr_15_2, sr_40_0, sr_355_0, sr_355_1, sr_355_2, sr_355_3, sr_355_4, sr_355_5, sr_361_2, sr_361_5, sr_361_6, sr_363_0, sr_363_1, sr_376_0, sr_376_2, sr_378_0, sr_378_1, sr_378_2, sr_378_4, sr_378_8, sr_378_10, sr_378_11, sr_378_12, sr_378_14, sr_378_20, sr_378_21, sr_378_22, sr_378_23, sr_378_24, sr_378_25, sr_378_26, am_vs, am_lg16.k, H1, HR, b2, d2, e2, i2]
          all_goals ((repeat' split) <;> first | rfl | trivial | (exfalso; omega))
end
