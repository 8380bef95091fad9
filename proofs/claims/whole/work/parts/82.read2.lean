/-! ===== reading: what rows come of it; the class's reader, the rest ===== -/
/-- a row that is being read -/
def rdI (t : Nat → Int) : Prop := (2 ≤ t 0 ∧ t 0 ≤ 6) ∧ (0 ≤ t 1 ∧ t 1 ≤ 8) ∧ (0 ≤ t 2 ∧ t 2 ≤ 4) ∧ t 3 = 0 ∧ t 4 = 0 ∧
  (∀ w : Nat, w < 8 → ((w : Int) < t 1 → (0 ≤ t (5 + w) ∧ t (5 + w) < t 0) ∧ (0 ≤ t (13 + w) ∧ t (13 + w) < t 0) ∧ t (5 + w) ≠ t (13 + w) ∧ 1 ≤ t (21 + w) ∧ t (21 + w) ≤ 9) ∧ (t 1 ≤ (w : Int) → t (5 + w) = 0 ∧ t (13 + w) = 0 ∧ t (21 + w) = 0)) ∧
  (∀ s : Nat, s < 4 → ((s : Int) < t 2 → (1 ≤ t (29 + s) ∧ t (29 + s) ≤ 5) ∧ 0 ≤ t (33 + s) ∧ t (33 + s) < t 0) ∧ (t 2 ≤ (s : Int) → t (29 + s) = 0 ∧ t (33 + s) = 0)) ∧
  (∀ i, 37 ≤ i → i < 61 → t i = 0) ∧ (∀ i, 61 ≤ i → i < 85 → t i = -1) ∧ ∀ i, 85 ≤ i → t i = 0
theorem nuO_r {f : Nat → Int} {N p : Nat} {lo hi no : Int} {x : Int × Nat} (h : nuO f N p lo hi no = .inr x) : lo ≤ x.1 ∧ x.1 ≤ hi ∧ x.1 ≠ no := by
  unfold nuO at h
  split at h
  · cases h
  · split at h
    · cases h
    · rename_i c
      cases h
      exact ⟨by simp only; omega, by simp only; omega, by simp only; omega⟩
theorem rdI_wyU {t : Nat → Int} {k : Nat} {a b l : Int} (h : rdI t) (h1 : t 1 = (k : Int)) (hk : k < 8) (ha : 0 ≤ a ∧ a ≤ t 0 - 1) (hb : 0 ≤ b ∧ b ≤ t 0 - 1) (hab : b ≠ a) (hl : 1 ≤ l ∧ l ≤ 9) : rdI (wyU t k a b l) ∧ wyU t k a b l 0 = t 0 ∧ wyU t k a b l 1 = (k : Int) + 1 ∧ wyU t k a b l 2 = t 2 := by
  obtain ⟨q0, q1, q2, q3, q4, qw, qs, qz, qk, qh⟩ := h
  have o : ∀ i, i ≠ 1 → i ≠ 5 + k → i ≠ 13 + k → i ≠ 21 + k → wyU t k a b l i = t i := fun i x1 x2 x3 x4 => by unfold wyU; rw [updI_n x1, updI_n x4, updI_n x3, updI_n x2]
  have e1 : wyU t k a b l 1 = (k : Int) + 1 := by unfold wyU; rw [updI_s]
  have e5 : wyU t k a b l (5 + k) = a := by unfold wyU; rw [updI_n (by omega), updI_n (by omega), updI_n (by omega), updI_s]
  have e13 : wyU t k a b l (13 + k) = b := by unfold wyU; rw [updI_n (by omega), updI_n (by omega), updI_s]
  have e21 : wyU t k a b l (21 + k) = l := by unfold wyU; rw [updI_n (by omega), updI_s]
  have o0 := o 0 (by omega) (by omega) (by omega) (by omega)
  have o2 := o 2 (by omega) (by omega) (by omega) (by omega)
  refine ⟨⟨by rw [o0]; exact q0, by rw [e1]; omega, by rw [o2]; exact q2, by rw [o 3 (by omega) (by omega) (by omega) (by omega)]; exact q3, by rw [o 4 (by omega) (by omega) (by omega) (by omega)]; exact q4, fun w hw => ?_, fun s hs => ?_, fun i x1 x2 => ?_, fun i x1 x2 => ?_, fun i x1 => ?_⟩, o0, e1, o2⟩
  · rw [e1, o0]
    by_cases e : w = k
    · subst e
      rw [e5, e13, e21]
      exact ⟨fun _ => ⟨by omega, by omega, fun hx => hab hx.symm, hl.1, hl.2⟩, fun hx => by omega⟩
    · rw [o (5 + w) (by omega) (by omega) (by omega) (by omega), o (13 + w) (by omega) (by omega) (by omega) (by omega), o (21 + w) (by omega) (by omega) (by omega) (by omega)]
      exact ⟨fun hx => (qw w hw).1 (by omega), fun hx => (qw w hw).2 (by omega)⟩
  · rw [o2, o0, o (29 + s) (by omega) (by omega) (by omega) (by omega), o (33 + s) (by omega) (by omega) (by omega) (by omega)]
    exact qs s hs
  · rw [o i (by omega) (by omega) (by omega) (by omega)]; exact qz i x1 x2
  · rw [o i (by omega) (by omega) (by omega) (by omega)]; exact qk i x1 x2
  · rw [o i (by omega) (by omega) (by omega) (by omega)]; exact qh i x1
theorem rdI_shU {t : Nat → Int} {k : Nat} {c b : Int} (h : rdI t) (h2 : t 2 = (k : Int)) (hk : k < 4) (hc : 1 ≤ c ∧ c ≤ 5) (hb : 0 ≤ b ∧ b ≤ t 0 - 1) : rdI (shU t k c b) ∧ shU t k c b 0 = t 0 ∧ shU t k c b 2 = (k : Int) + 1 ∧ shU t k c b 1 = t 1 := by
  obtain ⟨q0, q1, q2, q3, q4, qw, qs, qz, qk, qh⟩ := h
  have o : ∀ i, i ≠ 2 → i ≠ 29 + k → i ≠ 33 + k → shU t k c b i = t i := fun i x1 x2 x3 => by unfold shU; rw [updI_n x1, updI_n x3, updI_n x2]
  have e2 : shU t k c b 2 = (k : Int) + 1 := by unfold shU; rw [updI_s]
  have e29 : shU t k c b (29 + k) = c := by unfold shU; rw [updI_n (by omega), updI_n (by omega), updI_s]
  have e33 : shU t k c b (33 + k) = b := by unfold shU; rw [updI_n (by omega), updI_s]
  have o0 := o 0 (by omega) (by omega) (by omega)
  have o1 := o 1 (by omega) (by omega) (by omega)
  refine ⟨⟨by rw [o0]; exact q0, by rw [o1]; exact q1, by rw [e2]; omega, by rw [o 3 (by omega) (by omega) (by omega)]; exact q3, by rw [o 4 (by omega) (by omega) (by omega)]; exact q4, fun w hw => ?_, fun s hs => ?_, fun i x1 x2 => ?_, fun i x1 x2 => ?_, fun i x1 => ?_⟩, o0, e2, o1⟩
  · rw [o1, o0, o (5 + w) (by omega) (by omega) (by omega), o (13 + w) (by omega) (by omega) (by omega), o (21 + w) (by omega) (by omega) (by omega)]
    exact qw w hw
  · rw [e2, o0]
    by_cases e : s = k
    · subst e
      rw [e29, e33]
      exact ⟨fun _ => ⟨hc, by omega, by omega⟩, fun hx => by omega⟩
    · rw [o (29 + s) (by omega) (by omega) (by omega), o (33 + s) (by omega) (by omega) (by omega)]
      exact ⟨fun hx => (qs s hs).1 (by omega), fun hx => (qs s hs).2 (by omega)⟩
  · rw [o i (by omega) (by omega) (by omega)]; exact qz i x1 x2
  · rw [o i (by omega) (by omega) (by omega)]; exact qk i x1 x2
  · rw [o i (by omega) (by omega) (by omega)]; exact qh i x1
theorem rdI_wyO {f : Nat → Int} {N p k : Nat} {t : Nat → Int} {x : (Nat → Int) × Nat} (h : rdI t) (h1 : t 1 = (k : Int)) (hk : k < 8) (hx : wyO f N t p = .inr x) : rdI x.1 ∧ x.1 0 = t 0 ∧ x.1 1 = (k : Int) + 1 ∧ x.1 2 = t 2 := by
  unfold wyO at hx
  cases h1' : nuO f N p 0 (t 0 - 1) (-1) with
  | inl e => rw [h1'] at hx; cases hx
  | inr a =>
    rw [h1'] at hx
    change bO (sgO f N a.2 44) _ = _ at hx
    cases h2 : sgO f N a.2 44 with
    | inl e => rw [h2] at hx; cases hx
    | inr p2 =>
      rw [h2] at hx
      change bO (nuO f N p2 0 (t 0 - 1) a.1) _ = _ at hx
      cases h3 : nuO f N p2 0 (t 0 - 1) a.1 with
      | inl e => rw [h3] at hx; cases hx
      | inr b =>
        rw [h3] at hx
        change bO (sgO f N b.2 44) _ = _ at hx
        cases h4 : sgO f N b.2 44 with
        | inl e => rw [h4] at hx; cases hx
        | inr p4 =>
          rw [h4] at hx
          change bO (nuO f N p4 1 9 (-1)) _ = _ at hx
          cases h5 : nuO f N p4 1 9 (-1) with
          | inl e => rw [h5] at hx; cases hx
          | inr l =>
            rw [h5] at hx
            change bO (sgO f N l.2 59) _ = _ at hx
            cases h6 : sgO f N l.2 59 with
            | inl e => rw [h6] at hx; cases hx
            | inr p6 =>
              rw [h6] at hx
              cases hx
              have r1 := nuO_r h1'
              have r2 := nuO_r h3
              have r3 := nuO_r h5
              rw [h1, show ((k : Int)).toNat = k from rfl]
              exact rdI_wyU h h1 hk ⟨r1.1, r1.2.1⟩ ⟨r2.1, r2.2.1⟩ r2.2.2 ⟨r3.1, r3.2.1⟩
theorem rdI_spO {f : Nat → Int} {N p k : Nat} {c : Int} {t : Nat → Int} {x : (Nat → Int) × Nat} (h : rdI t) (h2 : t 2 = (k : Int)) (hk : k < 4) (hc : 1 ≤ c ∧ c ≤ 5) (hx : spO f N c t p = .inr x) : rdI x.1 ∧ x.1 0 = t 0 ∧ x.1 2 = (k : Int) + 1 ∧ x.1 1 = t 1 := by
  unfold spO at hx
  cases h1' : nuO f N p 0 (t 0 - 1) (-1) with
  | inl e => rw [h1'] at hx; cases hx
  | inr a =>
    rw [h1'] at hx
    change bO (sgO f N a.2 59) _ = _ at hx
    cases h3 : sgO f N a.2 59 with
    | inl e => rw [h3] at hx; cases hx
    | inr p2 =>
      rw [h3] at hx
      cases hx
      have r1 := nuO_r h1'
      rw [h2, show ((k : Int)).toNat = k from rfl]
      exact rdI_shU h h2 hk hc ⟨r1.1, r1.2.1⟩
theorem kdO_b (c : Int) : 0 ≤ kdO c ∧ kdO c ≤ 5 := by unfold kdO; (repeat' split) <;> omega
section
variable {f : Nat → Int} {N : Nat}
theorem c_kindOf {d : Nat} {c : Int} {S : am_S} {D : am_D} (hc : i32 c) : am_sem (d + 1) 64 [.int (iI c)] S D = some (some (.int (iI (kdO c))), S, D) := by
  refine mX4_kindOf rfl rfl ?_
  unfold kdO
  simp (disch := first | omega | simp only [am_ci, am_cr, am_ca]) only [eX4_kindOf_0, eX4_kindOf_1, eX4_kindOf_52, eX4_kindOf_53, eX4_kindOf_54, eX4_kindOf_55, eX4_kindOf_56, eX4_kindOf_57, eX4_kindOf_58, eX4_kindOf_59, eX4_kindOf_60, eX4_kindOf_61, eX4_kindOf_62, eX4_kindOf_63, am_bi, Int.reduceEq, Int.reduceLT, Int.reduceLE, Int.reduceToNat, ite_self, Decidable.not_not, not_true_eq_false, not_false_eq_true, ↓reduceIte, am_ci, am_cr, am_ca, am_b0, am_b1, am_ts, am_tn, am_then_some, List.cons_append, List.nil_append, ne_eq, iI_lit, iI_add, iI_sub, iI_mul, iI_neg, iI_lt, iI_le, iI_eq, iI_in, iI_clz, dI_ap, dI_wr, setR_s, wE_R, setR_2, setR_n, setR_o, updI_s, updI_n, updI_2, tl_0, tl_1, tl_2, tl_3, tl_4, tl_5, tl_6, tl_7, tl_8, tl_9, tl_10, tl_11, tl_12, tl_13, tl_14, tl_15, tl_16, tn_3, tn_5, tn_13, tn_21, tn_29, tn_33, tn_37, tn_41, tn_45, tn_49, tn_53, tn_57, tn_61, tn_40, tn_p, tn_0, true_and, and_true, sk_0, sk_1, sk_2, sl_2, sk_3, sl_3, sk_4, sl_4, sk_5, sl_5, sk_6, sl_6, sk_7, sl_7, sk_8, sl_8, sk_9, sl_9, sk_10, sl_10, sk_11, sl_11, sk_12, sl_12, sk_13, sk_14, sl_14, sk_15, sk_40, sk_41, sl_41, sk_330, sl_330, sk_355, sk_356, sl_356, sk_357, sl_357, sk_358, sl_358, sk_359, sl_359, sk_360, sl_360, sk_361, sk_362, sl_362, sk_363, sk_376, sk_377, sl_377, sk_378, sk_379, sl_379, sk_380, sl_380, sk_381, sl_381, sk_382, sl_382, sk_383, sl_383, sk_384, sl_384, sk_385, sl_385, sk_386, sl_386, sk_387, sl_387, sk_388, sl_388, sk_389, sl_389, sk_390, sl_390, sk_391, sl_391, sk_392, sl_392, sk_393, sl_393, sk_394, sl_394, sr_0_0, sr_0_1, sr_0_2, sr_0_3, sr_0_4, sr_0_5, sr_0_6, sr_0_7, sr_0_8, sr_0_9, sr_1_0, sr_1_1, sr_1_2, sr_13_0, sr_15_0, sr_15_2, sr_40_0, sr_355_0, sr_355_1, sr_355_2, sr_355_3, sr_355_4, sr_355_5, sr_361_2, sr_361_5, sr_361_6, sr_363_0, sr_363_1, sr_376_0, sr_376_2, sr_378_0, sr_378_1, sr_378_2, sr_378_4, sr_378_8, sr_378_10, sr_378_11, sr_378_12, sr_378_14, sr_378_20, sr_378_21, sr_378_22, sr_378_23, sr_378_24, sr_378_25, sr_378_26, am_vs]
  (repeat' split) <;> first | rfl | trivial | (exfalso; omega)
theorem c_readShip {d p k : Nat} {t : Nat → Int} {E : Nat → Nat → Int} (hB : bsR f N E) (hv : vwR f N E p) (hL : lgR E 16 t) (hr : rdI t) (h2 : t 2 = (k : Int)) (hk : k < 4) : ∃ E' z, frD E E' ∧ am_sem (d + 4) 65 [.ref 15] am_S0 (dI E) = some (some (.int (iI z)), am_S0, dI E') ∧ cOu f N E' (spO f N (kdO (tkC f N p)) t (nxC f N p)) z := by
  have hf := hB.2.2.2
  have h0 := hr.1
  have tb := tkC_b hf N p
  have t2 := hv.2.1
  have HK : ∀ D, am_sem (d + 3) 64 [.int (iI (tkC f N p))] am_S0 D = _ := fun D => c_kindOf (d := d + 2) (c := tkC f N p) (S := am_S0) (D := D) (by omega)
  obtain ⟨E1, a1, -, a2, a3⟩ := c_stepV (d := d + 1) hB hv.2.2.1 (nxC_le hv.2.2.2.2)
  have L1 := lgR_2 hL a1
  have B1 := bsR_D hB (fr2_D a1)
  have p1 : E1 16 0 = t 0 := L1.1.1.1
  unfold spO
  obtain ⟨E2, x, b1, b2, b3⟩ := c_number (d := d) (lo := 0) (hi := t 0 - 1) (no := -1000000) B1 a2 (by omega) (by omega) (by omega)
  rw [nuO_no hf (show (-1000000 : Int) < 0 by omega) (show (-1 : Int) < 0 by omega)] at b3
  have L2 := lgR_2 L1 b1
  have B2 := bsR_D B1 (fr2_D b1)
  rcases b3 with ⟨e, o1, o2, o3, o4⟩ | ⟨q, o1, o2, o3, o4, o5, -, o6⟩
  · rw [o1]
    refine ⟨E2, 0, frD_t (fr2_D a1) (fr2_D b1), mX4_readShip rfl rfl (by exact Or.inl rfl) ?_, Or.inl ⟨e, rfl, rfl, o3, o4⟩⟩
    simp (disch := first | omega | simp only [am_ci, am_cr, am_ca]) only [eX4_readShip_0, eX4_readShip_1, eX4_readShip_4, eX4_readShip_7, eX4_readShip_10, eX4_readShip_11, eX4_readShip_12, eX4_readShip_15, eX4_readShip_18, eX4_readShip_19, eX4_readShip_20, eX4_readShip_21, eX4_readShip_24, eX4_readShip_27, eX4_readShip_28, eX4_readShip_29, eX4_readShip_31, eX4_readShip_34, eX4_readShip_35, eX4_readShip_36, eX4_readShip_39, eX4_readShip_40, eX4_readShip_42, eX4_readShip_45, eX4_readShip_48, eX4_readShip_49, am_bi, Int.reduceEq, Int.reduceLT, Int.reduceLE, Int.reduceToNat, ite_self, Decidable.not_not, not_true_eq_false, not_false_eq_true, ↓reduceIte, am_ci, am_cr, am_ca, am_b0, am_b1, am_ts, am_tn, am_then_some, List.cons_append, List.nil_append, ne_eq, iI_lit, iI_add, iI_sub, iI_mul, iI_neg, iI_lt, iI_le, iI_eq, iI_in, iI_clz, dI_ap, dI_wr, setR_s, wE_R, setR_2, setR_n, setR_o, updI_s, updI_n, updI_2, tl_0, tl_1, tl_2, tl_3, tl_4, tl_5, tl_6, tl_7, tl_8, tl_9, tl_10, tl_11, tl_12, tl_13, tl_14, tl_15, tl_16, tn_3, tn_5, tn_13, tn_21, tn_29, tn_33, tn_37, tn_41, tn_45, tn_49, tn_53, tn_57, tn_61, tn_40, tn_p, tn_0, true_and, and_true, sk_0, sk_1, sk_2, sl_2, sk_3, sl_3, sk_4, sl_4, sk_5, sl_5, sk_6, sl_6, sk_7, sl_7, sk_8, sl_8, sk_9, sl_9, sk_10, sl_10, sk_11, sl_11, sk_12, sl_12, sk_13, sk_14, sl_14, sk_15, sk_40, sk_41, sl_41, sk_330, sl_330, sk_355, sk_356, sl_356, sk_357, sl_357, sk_358, sl_358, sk_359, sl_359, sk_360, sl_360, sk_361, sk_362, sl_362, sk_363, sk_376, sk_377, sl_377, sk_378, sk_379, sl_379, sk_380, sl_380, sk_381, sl_381, sk_382, sl_382, sk_383, sl_383, sk_384, sl_384, sk_385, sl_385, sk_386, sl_386, sk_387, sl_387, sk_388, sl_388, sk_389, sl_389, sk_390, sl_390, sk_391, sl_391, sk_392, sl_392, sk_393, sl_393, sk_394, sl_394, sr_0_0, sr_0_1, sr_0_2, sr_0_3, sr_0_4, sr_0_5, sr_0_6, sr_0_7, sr_0_8, sr_0_9, sr_1_0, sr_1_1, sr_1_2, sr_13_0, sr_15_0, sr_15_2, sr_40_0, sr_355_0, sr_355_1, sr_355_2, sr_355_3, sr_355_4, sr_355_5, sr_361_2, sr_361_5, sr_361_6, sr_363_0, sr_363_1, sr_376_0, sr_376_2, sr_378_0, sr_378_1, sr_378_2, sr_378_4, sr_378_8, sr_378_10, sr_378_11, sr_378_12, sr_378_14, sr_378_20, sr_378_21, sr_378_22, sr_378_23, sr_378_24, sr_378_25, sr_378_26, am_vs, t2, HK, a3, am_lg16.k, p1, b2, o2]
    all_goals ((repeat' split) <;> first | rfl | trivial | (exfalso; omega))
  · rw [o1]
    show ∃ E' z, _ ∧ _ ∧ cOu f N E' (bO (sgO f N q 59) _) z
    obtain ⟨E3, c1, c2, c3, c4⟩ := c_expect (d := d) (c := 59) B2 o6 (by omega)
    have L3 := lgR_2 L2 c1
    have fr3 : frD E E3 := frD_t (frD_t (fr2_D a1) (fr2_D b1)) (fr2_D c1)
    unfold sgO
    by_cases g1 : tkC f N q = 59
    · rw [if_pos g1]
      rw [if_pos g1] at c2
      show ∃ E' z, _ ∧ _ ∧ cOu f N E' (.inr (shU t (t 2).toNat (kdO (tkC f N p)) x, nxC f N q)) z
      obtain ⟨-, -, -, r3, -, -, -, rz, -⟩ := hr
      obtain ⟨E8, ⟨k1, k2, k3⟩, k4⟩ := c_addShip (d := d + 2) (a := 16) (k := k) (x := kdO (tkC f N p)) (y := x) am_lg16 L3.1 L3.2 h2 hk (rz _ (by omega) (by omega)) (rz _ (by omega) (by omega)) (rz _ (by omega) (by omega)) (by omega)
      rw [h2, show ((k : Int)).toNat = k from rfl]
      have V := c3 g1
      refine ⟨E8, 1, frD_t fr3 ⟨fun b hb => k3 b (by omega), by rw [k3 13 (by omega)]⟩, mX4_readShip rfl rfl (by exact Or.inr rfl) ?_, Or.inr ⟨_, _, rfl, rfl, ⟨k1, k2⟩, ?_⟩⟩
      · simp (disch := first | omega | simp only [am_ci, am_cr, am_ca]) only [eX4_readShip_0, eX4_readShip_1, eX4_readShip_4, eX4_readShip_7, eX4_readShip_10, eX4_readShip_11, eX4_readShip_12, eX4_readShip_15, eX4_readShip_18, eX4_readShip_19, eX4_readShip_20, eX4_readShip_21, eX4_readShip_24, eX4_readShip_27, eX4_readShip_28, eX4_readShip_29, eX4_readShip_31, eX4_readShip_34, eX4_readShip_35, eX4_readShip_36, eX4_readShip_39, eX4_readShip_40, eX4_readShip_42, eX4_readShip_45, eX4_readShip_48, eX4_readShip_49, eX4_readShip_50, eX4_readShip_51, eX4_readShip_54, eX4_readShip_55, eX4_readShip_56, eX4_readShip_59, eX4_readShip_60, am_bi, Int.reduceEq, Int.reduceLT, Int.reduceLE, Int.reduceToNat, ite_self, Decidable.not_not, not_true_eq_false, not_false_eq_true, ↓reduceIte, am_ci, am_cr, am_ca, am_b0, am_b1, am_ts, am_tn, am_then_some, List.cons_append, List.nil_append, ne_eq, iI_lit, iI_add, iI_sub, iI_mul, iI_neg, iI_lt, iI_le, iI_eq, iI_in, iI_clz, dI_ap, dI_wr, setR_s, wE_R, setR_2, setR_n, setR_o, updI_s, updI_n, updI_2, tl_0, tl_1, tl_2, tl_3, tl_4, tl_5, tl_6, tl_7, tl_8, tl_9, tl_10, tl_11, tl_12, tl_13, tl_14, tl_15, tl_16, tn_3, tn_5, tn_13, tn_21, tn_29, tn_33, tn_37, tn_41, tn_45, tn_49, tn_53, tn_57, tn_61, tn_40, tn_p, tn_0, true_and, and_true, sk_0, sk_1, sk_2, sl_2, sk_3, sl_3, sk_4, sl_4, sk_5, sl_5, sk_6, sl_6, sk_7, sl_7, sk_8, sl_8, sk_9, sl_9, sk_10, sl_10, sk_11, sl_11, sk_12, sl_12, sk_13, sk_14, sl_14, sk_15, sk_40, sk_41, sl_41, sk_330, sl_330, sk_355, sk_356, sl_356, sk_357, sl_357, sk_358, sl_358, sk_359, sl_359, sk_360, sl_360, sk_361, sk_362, sl_362, sk_363, sk_376, sk_377, sl_377, sk_378, sk_379, sl_379, sk_380, sl_380, sk_381, sl_381, sk_382, sl_382, sk_383, sl_383, sk_384, sl_384, sk_385, sl_385, sk_386, sl_386, sk_387, sl_387, sk_388, sl_388, sk_389, sl_389, sk_390, sl_390, sk_391, sl_391, sk_392, sl_392, sk_393, sl_393, sk_394, sl_394, sr_0_0, sr_0_1, sr_0_2, sr_0_3, sr_0_4, sr_0_5, sr_0_6, sr_0_7, sr_0_8, sr_0_9, sr_1_0, sr_1_1, sr_1_2, sr_13_0, sr_15_0, sr_15_2, sr_40_0, sr_355_0, sr_355_1, sr_355_2, sr_355_3, sr_355_4, sr_355_5, sr_361_2, sr_361_5, sr_361_6, sr_363_0, sr_363_1, sr_376_0, sr_376_2, sr_378_0, sr_378_1, sr_378_2, sr_378_4, sr_378_8, sr_378_10, sr_378_11, sr_378_12, sr_378_14, sr_378_20, sr_378_21, sr_378_22, sr_378_23, sr_378_24, sr_378_25, sr_378_26, am_vs, t2, HK, a3, am_lg16.k, p1, b2, c2, k4]
        repeat (first | rw [if_pos (by omega)] | rw [if_neg (by omega)])
        trivial
      · unfold vwR at V ⊢
        rw [k3 13 (by omega)]; exact V
    · rw [if_neg g1]
      rw [if_neg g1] at c2
      refine ⟨E3, 0, fr3, mX4_readShip rfl rfl (by exact Or.inl rfl) ?_, Or.inl ⟨(1, q), rfl, rfl, (c4 g1).1, (c4 g1).2⟩⟩
      simp (disch := first | omega | simp only [am_ci, am_cr, am_ca]) only [eX4_readShip_0, eX4_readShip_1, eX4_readShip_4, eX4_readShip_7, eX4_readShip_10, eX4_readShip_11, eX4_readShip_12, eX4_readShip_15, eX4_readShip_18, eX4_readShip_19, eX4_readShip_20, eX4_readShip_21, eX4_readShip_24, eX4_readShip_27, eX4_readShip_28, eX4_readShip_29, eX4_readShip_31, eX4_readShip_34, eX4_readShip_35, eX4_readShip_36, eX4_readShip_39, eX4_readShip_40, eX4_readShip_42, eX4_readShip_45, eX4_readShip_48, eX4_readShip_49, am_bi, Int.reduceEq, Int.reduceLT, Int.reduceLE, Int.reduceToNat, ite_self, Decidable.not_not, not_true_eq_false, not_false_eq_true, ↓reduceIte, am_ci, am_cr, am_ca, am_b0, am_b1, am_ts, am_tn, am_then_some, List.cons_append, List.nil_append, ne_eq, iI_lit, iI_add, iI_sub, iI_mul, iI_neg, iI_lt, iI_le, iI_eq, iI_in, iI_clz, dI_ap, dI_wr, setR_s, wE_R, setR_2, setR_n, setR_o, updI_s, updI_n, updI_2, tl_0, tl_1, tl_2, tl_3, tl_4, tl_5, tl_6, tl_7, tl_8, tl_9, tl_10, tl_11, tl_12, tl_13, tl_14, tl_15, tl_16, tn_3, tn_5, tn_13, tn_21, tn_29, tn_33, tn_37, tn_41, tn_45, tn_49, tn_53, tn_57, tn_61, tn_40, tn_p, tn_0, true_and, and_true, sk_0, sk_1, sk_2, sl_2, sk_3, sl_3, sk_4, sl_4, sk_5, sl_5, sk_6, sl_6, sk_7, sl_7, sk_8, sl_8, sk_9, sl_9, sk_10, sl_10, sk_11, sl_11, sk_12, sl_12, sk_13, sk_14, sl_14, sk_15, sk_40, sk_41, sl_41, sk_330, sl_330, sk_355, sk_356, sl_356, sk_357, sl_357, sk_358, sl_358, sk_359, sl_359, sk_360, sl_360, sk_361, sk_362, sl_362, sk_363, sk_376, sk_377, sl_377, sk_378, sk_379, sl_379, sk_380, sl_380, sk_381, sl_381, sk_382, sl_382, sk_383, sl_383, sk_384, sl_384, sk_385, sl_385, sk_386, sl_386, sk_387, sl_387, sk_388, sl_388, sk_389, sl_389, sk_390, sl_390, sk_391, sl_391, sk_392, sl_392, sk_393, sl_393, sk_394, sl_394, sr_0_0, sr_0_1, sr_0_2, sr_0_3, sr_0_4, sr_0_5, sr_0_6, sr_0_7, sr_0_8, sr_0_9, sr_1_0, sr_1_1, sr_1_2, sr_13_0, sr_15_0, sr_15_2, sr_40_0, sr_355_0, sr_355_1, sr_355_2, sr_355_3, sr_355_4, sr_355_5, sr_361_2, sr_361_5, sr_361_6, sr_363_0, sr_363_1, sr_376_0, sr_376_2, sr_378_0, sr_378_1, sr_378_2, sr_378_4, sr_378_8, sr_378_10, sr_378_11, sr_378_12, sr_378_14, sr_378_20, sr_378_21, sr_378_22, sr_378_23, sr_378_24, sr_378_25, sr_378_26, am_vs, t2, HK, a3, am_lg16.k, p1, b2, c2]
      repeat (first | rw [if_pos (by omega)] | rw [if_neg (by omega)])
      trivial
theorem c_readWays_l {d : Nat} : ∀ (k j : Nat) (t : Nat → Int) (E : Nat → Nat → Int) (p : Nat), j + k = 8 → bsR f N E → vwR f N E p → lgR E 16 t → rdI t → t 1 = (j : Int) → ∃ E' z, frD E E' ∧ am_ev (am_sem (d + 4)) 4 cX4_readWays 2 [.ref 15, .int (iI j)] [] am_S0 (dI E) (some (.int (iI z)), am_S0, dI E') ∧ cOu f N E' (waO f N k t p) z := by
  intro k
  induction k with
  | zero =>
    intro j t E p hj hB hv hL hr h1
    have tb := tkC_b hB.2.2.2 N p
    have t2 := hv.2.1
    unfold waO
    by_cases c : tkC f N p = 119
    · rw [if_pos c]
      refine ⟨setR E 15 (updI (E 15) 1 3), 0, ⟨fun b hb => setR_n (by omega), by rw [setR_n (by omega)]⟩, ?_, Or.inl ⟨(3, p), rfl, rfl, by rw [setR_s, updI_s], by rw [setR_n (by omega)]; exact hv.1⟩⟩
      rw [eX4_readWays_2]
      simp (disch := first | omega | simp only [am_ci, am_cr, am_ca]) only [eX4_readWays_3, eX4_readWays_5, eX4_readWays_8, eX4_readWays_9, eX4_readWays_12, eX4_readWays_15, eX4_readWays_17, eX4_readWays_20, eX4_readWays_21, eX4_readWays_24, eX4_readWays_27, eX4_readWays_28, eX4_readWays_29, eX4_readWays_32, eX4_readWays_35, eX4_readWays_36, eX4_readWays_39, eX4_readWays_42, eX4_readWays_44, eX4_readWays_47, eX4_readWays_48, eX4_readWays_49, eX4_readWays_52, eX4_readWays_55, eX4_readWays_56, eX4_readWays_59, eX4_readWays_60, am_bi, Int.reduceEq, Int.reduceLT, Int.reduceLE, Int.reduceToNat, ite_self, Decidable.not_not, not_true_eq_false, not_false_eq_true, ↓reduceIte, am_ci, am_cr, am_ca, am_b0, am_b1, am_ts, am_tn, am_then_some, List.cons_append, List.nil_append, ne_eq, iI_lit, iI_add, iI_sub, iI_mul, iI_neg, iI_lt, iI_le, iI_eq, iI_in, iI_clz, dI_ap, dI_wr, setR_s, wE_R, setR_2, setR_n, setR_o, updI_s, updI_n, updI_2, tl_0, tl_1, tl_2, tl_3, tl_4, tl_5, tl_6, tl_7, tl_8, tl_9, tl_10, tl_11, tl_12, tl_13, tl_14, tl_15, tl_16, tn_3, tn_5, tn_13, tn_21, tn_29, tn_33, tn_37, tn_41, tn_45, tn_49, tn_53, tn_57, tn_61, tn_40, tn_p, tn_0, true_and, and_true, sk_0, sk_1, sk_2, sl_2, sk_3, sl_3, sk_4, sl_4, sk_5, sl_5, sk_6, sl_6, sk_7, sl_7, sk_8, sl_8, sk_9, sl_9, sk_10, sl_10, sk_11, sl_11, sk_12, sl_12, sk_13, sk_14, sl_14, sk_15, sk_40, sk_41, sl_41, sk_330, sl_330, sk_355, sk_356, sl_356, sk_357, sl_357, sk_358, sl_358, sk_359, sl_359, sk_360, sl_360, sk_361, sk_362, sl_362, sk_363, sk_376, sk_377, sl_377, sk_378, sk_379, sl_379, sk_380, sl_380, sk_381, sl_381, sk_382, sl_382, sk_383, sl_383, sk_384, sl_384, sk_385, sl_385, sk_386, sl_386, sk_387, sl_387, sk_388, sl_388, sk_389, sl_389, sk_390, sl_390, sk_391, sl_391, sk_392, sl_392, sk_393, sl_393, sk_394, sl_394, sr_0_0, sr_0_1, sr_0_2, sr_0_3, sr_0_4, sr_0_5, sr_0_6, sr_0_7, sr_0_8, sr_0_9, sr_1_0, sr_1_1, sr_1_2, sr_13_0, sr_15_0, sr_15_2, sr_40_0, sr_355_0, sr_355_1, sr_355_2, sr_355_3, sr_355_4, sr_355_5, sr_361_2, sr_361_5, sr_361_6, sr_363_0, sr_363_1, sr_376_0, sr_376_2, sr_378_0, sr_378_1, sr_378_2, sr_378_4, sr_378_8, sr_378_10, sr_378_11, sr_378_12, sr_378_14, sr_378_20, sr_378_21, sr_378_22, sr_378_23, sr_378_24, sr_378_25, sr_378_26, am_vs, t2, c, c_refuse]
      repeat (first | rw [if_pos (by omega)] | rw [if_neg (by omega)])
      trivial
    · rw [if_neg c]
      refine ⟨E, 1, ⟨fun b hb => rfl, rfl⟩, ?_, Or.inr ⟨t, p, rfl, rfl, hL, hv⟩⟩
      rw [eX4_readWays_2]
      simp (disch := first | omega | simp only [am_ci, am_cr, am_ca]) only [eX4_readWays_3, eX4_readWays_5, eX4_readWays_8, eX4_readWays_9, eX4_readWays_12, eX4_readWays_15, eX4_readWays_17, eX4_readWays_20, eX4_readWays_21, eX4_readWays_24, eX4_readWays_27, eX4_readWays_28, eX4_readWays_29, eX4_readWays_32, eX4_readWays_35, eX4_readWays_36, eX4_readWays_39, eX4_readWays_42, eX4_readWays_44, eX4_readWays_47, eX4_readWays_48, eX4_readWays_49, eX4_readWays_52, eX4_readWays_55, eX4_readWays_56, eX4_readWays_59, eX4_readWays_60, am_bi, Int.reduceEq, Int.reduceLT, Int.reduceLE, Int.reduceToNat, ite_self, Decidable.not_not, not_true_eq_false, not_false_eq_true, ↓reduceIte, am_ci, am_cr, am_ca, am_b0, am_b1, am_ts, am_tn, am_then_some, List.cons_append, List.nil_append, ne_eq, iI_lit, iI_add, iI_sub, iI_mul, iI_neg, iI_lt, iI_le, iI_eq, iI_in, iI_clz, dI_ap, dI_wr, setR_s, wE_R, setR_2, setR_n, setR_o, updI_s, updI_n, updI_2, tl_0, tl_1, tl_2, tl_3, tl_4, tl_5, tl_6, tl_7, tl_8, tl_9, tl_10, tl_11, tl_12, tl_13, tl_14, tl_15, tl_16, tn_3, tn_5, tn_13, tn_21, tn_29, tn_33, tn_37, tn_41, tn_45, tn_49, tn_53, tn_57, tn_61, tn_40, tn_p, tn_0, true_and, and_true, sk_0, sk_1, sk_2, sl_2, sk_3, sl_3, sk_4, sl_4, sk_5, sl_5, sk_6, sl_6, sk_7, sl_7, sk_8, sl_8, sk_9, sl_9, sk_10, sl_10, sk_11, sl_11, sk_12, sl_12, sk_13, sk_14, sl_14, sk_15, sk_40, sk_41, sl_41, sk_330, sl_330, sk_355, sk_356, sl_356, sk_357, sl_357, sk_358, sl_358, sk_359, sl_359, sk_360, sl_360, sk_361, sk_362, sl_362, sk_363, sk_376, sk_377, sl_377, sk_378, sk_379, sl_379, sk_380, sl_380, sk_381, sl_381, sk_382, sl_382, sk_383, sl_383, sk_384, sl_384, sk_385, sl_385, sk_386, sl_386, sk_387, sl_387, sk_388, sl_388, sk_389, sl_389, sk_390, sl_390, sk_391, sl_391, sk_392, sl_392, sk_393, sl_393, sk_394, sl_394, sr_0_0, sr_0_1, sr_0_2, sr_0_3, sr_0_4, sr_0_5, sr_0_6, sr_0_7, sr_0_8, sr_0_9, sr_1_0, sr_1_1, sr_1_2, sr_13_0, sr_15_0, sr_15_2, sr_40_0, sr_355_0, sr_355_1, sr_355_2, sr_355_3, sr_355_4, sr_355_5, sr_361_2, sr_361_5, sr_361_6, sr_363_0, sr_363_1, sr_376_0, sr_376_2, sr_378_0, sr_378_1, sr_378_2, sr_378_4, sr_378_8, sr_378_10, sr_378_11, sr_378_12, sr_378_14, sr_378_20, sr_378_21, sr_378_22, sr_378_23, sr_378_24, sr_378_25, sr_378_26, am_vs, t2]
      repeat (first | rw [if_pos (by omega)] | rw [if_neg (by omega)])
      trivial
  | succ k ih =>
    intro j t E p hj hB hv hL hr h1
    have tb := tkC_b hB.2.2.2 N p
    have t2 := hv.2.1
    unfold waO
    by_cases c : tkC f N p = 119
    · rw [if_pos c]
      obtain ⟨E1, z, a1, a2, a3⟩ := c_readWay (d := d) hB hv hL hr.1 h1 (by omega)
      rcases a3 with ⟨e, o1, o2, o3, o4⟩ | ⟨u, q, o1, o2, o3, o4⟩
      · rw [o1]
        subst o2
        refine ⟨E1, 0, a1, ?_, Or.inl ⟨e, rfl, rfl, o3, o4⟩⟩
        rw [eX4_readWays_2]
        simp (disch := first | omega | simp only [am_ci, am_cr, am_ca]) only [eX4_readWays_3, eX4_readWays_5, eX4_readWays_8, eX4_readWays_9, eX4_readWays_12, eX4_readWays_15, eX4_readWays_17, eX4_readWays_20, eX4_readWays_21, eX4_readWays_24, eX4_readWays_27, eX4_readWays_28, am_bi, Int.reduceEq, Int.reduceLT, Int.reduceLE, Int.reduceToNat, ite_self, Decidable.not_not, not_true_eq_false, not_false_eq_true, ↓reduceIte, am_ci, am_cr, am_ca, am_b0, am_b1, am_ts, am_tn, am_then_some, List.cons_append, List.nil_append, ne_eq, iI_lit, iI_add, iI_sub, iI_mul, iI_neg, iI_lt, iI_le, iI_eq, iI_in, iI_clz, dI_ap, dI_wr, setR_s, wE_R, setR_2, setR_n, setR_o, updI_s, updI_n, updI_2, tl_0, tl_1, tl_2, tl_3, tl_4, tl_5, tl_6, tl_7, tl_8, tl_9, tl_10, tl_11, tl_12, tl_13, tl_14, tl_15, tl_16, tn_3, tn_5, tn_13, tn_21, tn_29, tn_33, tn_37, tn_41, tn_45, tn_49, tn_53, tn_57, tn_61, tn_40, tn_p, tn_0, true_and, and_true, sk_0, sk_1, sk_2, sl_2, sk_3, sl_3, sk_4, sl_4, sk_5, sl_5, sk_6, sl_6, sk_7, sl_7, sk_8, sl_8, sk_9, sl_9, sk_10, sl_10, sk_11, sl_11, sk_12, sl_12, sk_13, sk_14, sl_14, sk_15, sk_40, sk_41, sl_41, sk_330, sl_330, sk_355, sk_356, sl_356, sk_357, sl_357, sk_358, sl_358, sk_359, sl_359, sk_360, sl_360, sk_361, sk_362, sl_362, sk_363, sk_376, sk_377, sl_377, sk_378, sk_379, sl_379, sk_380, sl_380, sk_381, sl_381, sk_382, sl_382, sk_383, sl_383, sk_384, sl_384, sk_385, sl_385, sk_386, sl_386, sk_387, sl_387, sk_388, sl_388, sk_389, sl_389, sk_390, sl_390, sk_391, sl_391, sk_392, sl_392, sk_393, sl_393, sk_394, sl_394, sr_0_0, sr_0_1, sr_0_2, sr_0_3, sr_0_4, sr_0_5, sr_0_6, sr_0_7, sr_0_8, sr_0_9, sr_1_0, sr_1_1, sr_1_2, sr_13_0, sr_15_0, sr_15_2, sr_40_0, sr_355_0, sr_355_1, sr_355_2, sr_355_3, sr_355_4, sr_355_5, sr_361_2, sr_361_5, sr_361_6, sr_363_0, sr_363_1, sr_376_0, sr_376_2, sr_378_0, sr_378_1, sr_378_2, sr_378_4, sr_378_8, sr_378_10, sr_378_11, sr_378_12, sr_378_14, sr_378_20, sr_378_21, sr_378_22, sr_378_23, sr_378_24, sr_378_25, sr_378_26, am_vs, t2, c, a2]
        repeat (first | rw [if_pos (by omega)] | rw [if_neg (by omega)])
        trivial
      · rw [o1]
        subst o2
        obtain ⟨r1, r2, r3, r4⟩ := rdI_wyO hr h1 (by omega) o1
        obtain ⟨E', z, b1, b2, b3⟩ := ih (j + 1) u E1 q (by omega) (bsR_D hB a1) o4 o3 r1 (by simp only at r3; omega)
        refine ⟨E', z, frD_t a1 b1, ?_, b3⟩
        rw [eX4_readWays_2]
        simp (disch := first | omega | simp only [am_ci, am_cr, am_ca]) only [eX4_readWays_3, eX4_readWays_5, eX4_readWays_8, eX4_readWays_9, eX4_readWays_12, eX4_readWays_15, eX4_readWays_17, eX4_readWays_20, eX4_readWays_21, eX4_readWays_24, eX4_readWays_27, eX4_readWays_28, eX4_readWays_29, eX4_readWays_32, am_bi, Int.reduceEq, Int.reduceLT, Int.reduceLE, Int.reduceToNat, ite_self, Decidable.not_not, not_true_eq_false, not_false_eq_true, ↓reduceIte, am_ci, am_cr, am_ca, am_b0, am_b1, am_ts, am_tn, am_then_some, List.cons_append, List.nil_append, ne_eq, iI_lit, iI_add, iI_sub, iI_mul, iI_neg, iI_lt, iI_le, iI_eq, iI_in, iI_clz, dI_ap, dI_wr, setR_s, wE_R, setR_2, setR_n, setR_o, updI_s, updI_n, updI_2, tl_0, tl_1, tl_2, tl_3, tl_4, tl_5, tl_6, tl_7, tl_8, tl_9, tl_10, tl_11, tl_12, tl_13, tl_14, tl_15, tl_16, tn_3, tn_5, tn_13, tn_21, tn_29, tn_33, tn_37, tn_41, tn_45, tn_49, tn_53, tn_57, tn_61, tn_40, tn_p, tn_0, true_and, and_true, sk_0, sk_1, sk_2, sl_2, sk_3, sl_3, sk_4, sl_4, sk_5, sl_5, sk_6, sl_6, sk_7, sl_7, sk_8, sl_8, sk_9, sl_9, sk_10, sl_10, sk_11, sl_11, sk_12, sl_12, sk_13, sk_14, sl_14, sk_15, sk_40, sk_41, sl_41, sk_330, sl_330, sk_355, sk_356, sl_356, sk_357, sl_357, sk_358, sl_358, sk_359, sl_359, sk_360, sl_360, sk_361, sk_362, sl_362, sk_363, sk_376, sk_377, sl_377, sk_378, sk_379, sl_379, sk_380, sl_380, sk_381, sl_381, sk_382, sl_382, sk_383, sl_383, sk_384, sl_384, sk_385, sl_385, sk_386, sl_386, sk_387, sl_387, sk_388, sl_388, sk_389, sl_389, sk_390, sl_390, sk_391, sl_391, sk_392, sl_392, sk_393, sl_393, sk_394, sl_394, sr_0_0, sr_0_1, sr_0_2, sr_0_3, sr_0_4, sr_0_5, sr_0_6, sr_0_7, sr_0_8, sr_0_9, sr_1_0, sr_1_1, sr_1_2, sr_13_0, sr_15_0, sr_15_2, sr_40_0, sr_355_0, sr_355_1, sr_355_2, sr_355_3, sr_355_4, sr_355_5, sr_361_2, sr_361_5, sr_361_6, sr_363_0, sr_363_1, sr_376_0, sr_376_2, sr_378_0, sr_378_1, sr_378_2, sr_378_4, sr_378_8, sr_378_10, sr_378_11, sr_378_12, sr_378_14, sr_378_20, sr_378_21, sr_378_22, sr_378_23, sr_378_24, sr_378_25, sr_378_26, am_vs, t2, c, a2]
        repeat (first | rw [if_pos (by omega)] | rw [if_neg (by omega)])
        exact b2
    · rw [if_neg c]
      refine ⟨E, 1, ⟨fun b hb => rfl, rfl⟩, ?_, Or.inr ⟨t, p, rfl, rfl, hL, hv⟩⟩
      rw [eX4_readWays_2]
      simp (disch := first | omega | simp only [am_ci, am_cr, am_ca]) only [eX4_readWays_3, eX4_readWays_5, eX4_readWays_8, eX4_readWays_9, eX4_readWays_12, eX4_readWays_15, eX4_readWays_17, eX4_readWays_20, eX4_readWays_21, eX4_readWays_24, eX4_readWays_27, eX4_readWays_28, eX4_readWays_29, eX4_readWays_32, eX4_readWays_35, eX4_readWays_36, eX4_readWays_39, eX4_readWays_42, eX4_readWays_44, eX4_readWays_47, eX4_readWays_48, eX4_readWays_49, eX4_readWays_52, eX4_readWays_55, eX4_readWays_56, eX4_readWays_59, eX4_readWays_60, am_bi, Int.reduceEq, Int.reduceLT, Int.reduceLE, Int.reduceToNat, ite_self, Decidable.not_not, not_true_eq_false, not_false_eq_true, ↓reduceIte, am_ci, am_cr, am_ca, am_b0, am_b1, am_ts, am_tn, am_then_some, List.cons_append, List.nil_append, ne_eq, iI_lit, iI_add, iI_sub, iI_mul, iI_neg, iI_lt, iI_le, iI_eq, iI_in, iI_clz, dI_ap, dI_wr, setR_s, wE_R, setR_2, setR_n, setR_o, updI_s, updI_n, updI_2, tl_0, tl_1, tl_2, tl_3, tl_4, tl_5, tl_6, tl_7, tl_8, tl_9, tl_10, tl_11, tl_12, tl_13, tl_14, tl_15, tl_16, tn_3, tn_5, tn_13, tn_21, tn_29, tn_33, tn_37, tn_41, tn_45, tn_49, tn_53, tn_57, tn_61, tn_40, tn_p, tn_0, true_and, and_true, sk_0, sk_1, sk_2, sl_2, sk_3, sl_3, sk_4, sl_4, sk_5, sl_5, sk_6, sl_6, sk_7, sl_7, sk_8, sl_8, sk_9, sl_9, sk_10, sl_10, sk_11, sl_11, sk_12, sl_12, sk_13, sk_14, sl_14, sk_15, sk_40, sk_41, sl_41, sk_330, sl_330, sk_355, sk_356, sl_356, sk_357, sl_357, sk_358, sl_358, sk_359, sl_359, sk_360, sl_360, sk_361, sk_362, sl_362, sk_363, sk_376, sk_377, sl_377, sk_378, sk_379, sl_379, sk_380, sl_380, sk_381, sl_381, sk_382, sl_382, sk_383, sl_383, sk_384, sl_384, sk_385, sl_385, sk_386, sl_386, sk_387, sl_387, sk_388, sl_388, sk_389, sl_389, sk_390, sl_390, sk_391, sl_391, sk_392, sl_392, sk_393, sl_393, sk_394, sl_394, sr_0_0, sr_0_1, sr_0_2, sr_0_3, sr_0_4, sr_0_5, sr_0_6, sr_0_7, sr_0_8, sr_0_9, sr_1_0, sr_1_1, sr_1_2, sr_13_0, sr_15_0, sr_15_2, sr_40_0, sr_355_0, sr_355_1, sr_355_2, sr_355_3, sr_355_4, sr_355_5, sr_361_2, sr_361_5, sr_361_6, sr_363_0, sr_363_1, sr_376_0, sr_376_2, sr_378_0, sr_378_1, sr_378_2, sr_378_4, sr_378_8, sr_378_10, sr_378_11, sr_378_12, sr_378_14, sr_378_20, sr_378_21, sr_378_22, sr_378_23, sr_378_24, sr_378_25, sr_378_26, am_vs, t2]
      repeat (first | rw [if_pos (by omega)] | rw [if_neg (by omega)])
      trivial
theorem c_readShips_l {d : Nat} : ∀ (k j : Nat) (t : Nat → Int) (E : Nat → Nat → Int) (p : Nat), j + k = 4 → bsR f N E → vwR f N E p → lgR E 16 t → rdI t → t 2 = (j : Int) → ∃ E' z, frD E E' ∧ am_ev (am_sem (d + 4)) 4 cX4_readShips 2 [.ref 15, .int (iI j)] [] am_S0 (dI E) (some (.int (iI z)), am_S0, dI E') ∧ cOu f N E' (shO f N k t p) z := by
  intro k
  induction k with
  | zero =>
    intro j t E p hj hB hv hL hr h1
    have tb := tkC_b hB.2.2.2 N p
    have t2 := hv.2.1
    have kb := kdO_b (tkC f N p)
    have HK : ∀ D, am_sem (d + 4) 64 [.int (iI (tkC f N p))] am_S0 D = _ := fun D => c_kindOf (d := d + 3) (c := tkC f N p) (S := am_S0) (D := D) (by omega)
    unfold shO
    by_cases c : kdO (tkC f N p) ≠ 0
    · rw [if_pos c]
      refine ⟨setR E 15 (updI (E 15) 1 3), 0, ⟨fun b hb => setR_n (by omega), by rw [setR_n (by omega)]⟩, ?_, Or.inl ⟨(3, p), rfl, rfl, by rw [setR_s, updI_s], by rw [setR_n (by omega)]; exact hv.1⟩⟩
      rw [eX4_readShips_2]
      simp (disch := first | omega | simp only [am_ci, am_cr, am_ca]) only [eX4_readShips_3, eX4_readShips_4, eX4_readShips_7, eX4_readShips_8, eX4_readShips_11, eX4_readShips_14, eX4_readShips_17, eX4_readShips_20, eX4_readShips_21, eX4_readShips_24, eX4_readShips_27, eX4_readShips_28, eX4_readShips_29, eX4_readShips_32, eX4_readShips_35, eX4_readShips_36, eX4_readShips_39, eX4_readShips_42, eX4_readShips_45, eX4_readShips_48, eX4_readShips_49, eX4_readShips_50, eX4_readShips_53, eX4_readShips_56, eX4_readShips_57, eX4_readShips_60, eX4_readShips_61, am_bi, Int.reduceEq, Int.reduceLT, Int.reduceLE, Int.reduceToNat, ite_self, Decidable.not_not, not_true_eq_false, not_false_eq_true, ↓reduceIte, am_ci, am_cr, am_ca, am_b0, am_b1, am_ts, am_tn, am_then_some, List.cons_append, List.nil_append, ne_eq, iI_lit, iI_add, iI_sub, iI_mul, iI_neg, iI_lt, iI_le, iI_eq, iI_in, iI_clz, dI_ap, dI_wr, setR_s, wE_R, setR_2, setR_n, setR_o, updI_s, updI_n, updI_2, tl_0, tl_1, tl_2, tl_3, tl_4, tl_5, tl_6, tl_7, tl_8, tl_9, tl_10, tl_11, tl_12, tl_13, tl_14, tl_15, tl_16, tn_3, tn_5, tn_13, tn_21, tn_29, tn_33, tn_37, tn_41, tn_45, tn_49, tn_53, tn_57, tn_61, tn_40, tn_p, tn_0, true_and, and_true, sk_0, sk_1, sk_2, sl_2, sk_3, sl_3, sk_4, sl_4, sk_5, sl_5, sk_6, sl_6, sk_7, sl_7, sk_8, sl_8, sk_9, sl_9, sk_10, sl_10, sk_11, sl_11, sk_12, sl_12, sk_13, sk_14, sl_14, sk_15, sk_40, sk_41, sl_41, sk_330, sl_330, sk_355, sk_356, sl_356, sk_357, sl_357, sk_358, sl_358, sk_359, sl_359, sk_360, sl_360, sk_361, sk_362, sl_362, sk_363, sk_376, sk_377, sl_377, sk_378, sk_379, sl_379, sk_380, sl_380, sk_381, sl_381, sk_382, sl_382, sk_383, sl_383, sk_384, sl_384, sk_385, sl_385, sk_386, sl_386, sk_387, sl_387, sk_388, sl_388, sk_389, sl_389, sk_390, sl_390, sk_391, sl_391, sk_392, sl_392, sk_393, sl_393, sk_394, sl_394, sr_0_0, sr_0_1, sr_0_2, sr_0_3, sr_0_4, sr_0_5, sr_0_6, sr_0_7, sr_0_8, sr_0_9, sr_1_0, sr_1_1, sr_1_2, sr_13_0, sr_15_0, sr_15_2, sr_40_0, sr_355_0, sr_355_1, sr_355_2, sr_355_3, sr_355_4, sr_355_5, sr_361_2, sr_361_5, sr_361_6, sr_363_0, sr_363_1, sr_376_0, sr_376_2, sr_378_0, sr_378_1, sr_378_2, sr_378_4, sr_378_8, sr_378_10, sr_378_11, sr_378_12, sr_378_14, sr_378_20, sr_378_21, sr_378_22, sr_378_23, sr_378_24, sr_378_25, sr_378_26, am_vs, t2, HK, c_refuse]
      repeat (first | rw [if_pos (by omega)] | rw [if_neg (by omega)])
      trivial
    · rw [if_neg c]
      refine ⟨E, 1, ⟨fun b hb => rfl, rfl⟩, ?_, Or.inr ⟨t, p, rfl, rfl, hL, hv⟩⟩
      rw [eX4_readShips_2]
      simp (disch := first | omega | simp only [am_ci, am_cr, am_ca]) only [eX4_readShips_3, eX4_readShips_4, eX4_readShips_7, eX4_readShips_8, eX4_readShips_11, eX4_readShips_14, eX4_readShips_17, eX4_readShips_20, eX4_readShips_21, eX4_readShips_24, eX4_readShips_27, eX4_readShips_28, eX4_readShips_29, eX4_readShips_32, eX4_readShips_35, eX4_readShips_36, eX4_readShips_39, eX4_readShips_42, eX4_readShips_45, eX4_readShips_48, eX4_readShips_49, eX4_readShips_50, eX4_readShips_53, eX4_readShips_56, eX4_readShips_57, eX4_readShips_60, eX4_readShips_61, am_bi, Int.reduceEq, Int.reduceLT, Int.reduceLE, Int.reduceToNat, ite_self, Decidable.not_not, not_true_eq_false, not_false_eq_true, ↓reduceIte, am_ci, am_cr, am_ca, am_b0, am_b1, am_ts, am_tn, am_then_some, List.cons_append, List.nil_append, ne_eq, iI_lit, iI_add, iI_sub, iI_mul, iI_neg, iI_lt, iI_le, iI_eq, iI_in, iI_clz, dI_ap, dI_wr, setR_s, wE_R, setR_2, setR_n, setR_o, updI_s, updI_n, updI_2, tl_0, tl_1, tl_2, tl_3, tl_4, tl_5, tl_6, tl_7, tl_8, tl_9, tl_10, tl_11, tl_12, tl_13, tl_14, tl_15, tl_16, tn_3, tn_5, tn_13, tn_21, tn_29, tn_33, tn_37, tn_41, tn_45, tn_49, tn_53, tn_57, tn_61, tn_40, tn_p, tn_0, true_and, and_true, sk_0, sk_1, sk_2, sl_2, sk_3, sl_3, sk_4, sl_4, sk_5, sl_5, sk_6, sl_6, sk_7, sl_7, sk_8, sl_8, sk_9, sl_9, sk_10, sl_10, sk_11, sl_11, sk_12, sl_12, sk_13, sk_14, sl_14, sk_15, sk_40, sk_41, sl_41, sk_330, sl_330, sk_355, sk_356, sl_356, sk_357, sl_357, sk_358, sl_358, sk_359, sl_359, sk_360, sl_360, sk_361, sk_362, sl_362, sk_363, sk_376, sk_377, sl_377, sk_378, sk_379, sl_379, sk_380, sl_380, sk_381, sl_381, sk_382, sl_382, sk_383, sl_383, sk_384, sl_384, sk_385, sl_385, sk_386, sl_386, sk_387, sl_387, sk_388, sl_388, sk_389, sl_389, sk_390, sl_390, sk_391, sl_391, sk_392, sl_392, sk_393, sl_393, sk_394, sl_394, sr_0_0, sr_0_1, sr_0_2, sr_0_3, sr_0_4, sr_0_5, sr_0_6, sr_0_7, sr_0_8, sr_0_9, sr_1_0, sr_1_1, sr_1_2, sr_13_0, sr_15_0, sr_15_2, sr_40_0, sr_355_0, sr_355_1, sr_355_2, sr_355_3, sr_355_4, sr_355_5, sr_361_2, sr_361_5, sr_361_6, sr_363_0, sr_363_1, sr_376_0, sr_376_2, sr_378_0, sr_378_1, sr_378_2, sr_378_4, sr_378_8, sr_378_10, sr_378_11, sr_378_12, sr_378_14, sr_378_20, sr_378_21, sr_378_22, sr_378_23, sr_378_24, sr_378_25, sr_378_26, am_vs, t2, HK]
      repeat (first | rw [if_pos (by omega)] | rw [if_neg (by omega)])
      trivial
  | succ k ih =>
    intro j t E p hj hB hv hL hr h1
    have tb := tkC_b hB.2.2.2 N p
    have t2 := hv.2.1
    have kb := kdO_b (tkC f N p)
    have HK : ∀ D, am_sem (d + 4) 64 [.int (iI (tkC f N p))] am_S0 D = _ := fun D => c_kindOf (d := d + 3) (c := tkC f N p) (S := am_S0) (D := D) (by omega)
    unfold shO
    by_cases c : kdO (tkC f N p) ≠ 0
    · rw [if_pos c]
      obtain ⟨E1, z, a1, a2, a3⟩ := c_readShip (d := d) hB hv hL hr h1 (by omega)
      rcases a3 with ⟨e, o1, o2, o3, o4⟩ | ⟨u, q, o1, o2, o3, o4⟩
      · rw [o1]
        subst o2
        refine ⟨E1, 0, a1, ?_, Or.inl ⟨e, rfl, rfl, o3, o4⟩⟩
        rw [eX4_readShips_2]
        simp (disch := first | omega | simp only [am_ci, am_cr, am_ca]) only [eX4_readShips_3, eX4_readShips_4, eX4_readShips_7, eX4_readShips_8, eX4_readShips_11, eX4_readShips_14, eX4_readShips_17, eX4_readShips_20, eX4_readShips_21, eX4_readShips_24, eX4_readShips_27, eX4_readShips_28, am_bi, Int.reduceEq, Int.reduceLT, Int.reduceLE, Int.reduceToNat, ite_self, Decidable.not_not, not_true_eq_false, not_false_eq_true, ↓reduceIte, am_ci, am_cr, am_ca, am_b0, am_b1, am_ts, am_tn, am_then_some, List.cons_append, List.nil_append, ne_eq, iI_lit, iI_add, iI_sub, iI_mul, iI_neg, iI_lt, iI_le, iI_eq, iI_in, iI_clz, dI_ap, dI_wr, setR_s, wE_R, setR_2, setR_n, setR_o, updI_s, updI_n, updI_2, tl_0, tl_1, tl_2, tl_3, tl_4, tl_5, tl_6, tl_7, tl_8, tl_9, tl_10, tl_11, tl_12, tl_13, tl_14, tl_15, tl_16, tn_3, tn_5, tn_13, tn_21, tn_29, tn_33, tn_37, tn_41, tn_45, tn_49, tn_53, tn_57, tn_61, tn_40, tn_p, tn_0, true_and, and_true, sk_0, sk_1, sk_2, sl_2, sk_3, sl_3, sk_4, sl_4, sk_5, sl_5, sk_6, sl_6, sk_7, sl_7, sk_8, sl_8, sk_9, sl_9, sk_10, sl_10, sk_11, sl_11, sk_12, sl_12, sk_13, sk_14, sl_14, sk_15, sk_40, sk_41, sl_41, sk_330, sl_330, sk_355, sk_356, sl_356, sk_357, sl_357, sk_358, sl_358, sk_359, sl_359, sk_360, sl_360, sk_361, sk_362, sl_362, sk_363, sk_376, sk_377, sl_377, sk_378, sk_379, sl_379, sk_380, sl_380, sk_381, sl_381, sk_382, sl_382, sk_383, sl_383, sk_384, sl_384, sk_385, sl_385, sk_386, sl_386, sk_387, sl_387, sk_388, sl_388, sk_389, sl_389, sk_390, sl_390, sk_391, sl_391, sk_392, sl_392, sk_393, sl_393, sk_394, sl_394, sr_0_0, sr_0_1, sr_0_2, sr_0_3, sr_0_4, sr_0_5, sr_0_6, sr_0_7, sr_0_8, sr_0_9, sr_1_0, sr_1_1, sr_1_2, sr_13_0, sr_15_0, sr_15_2, sr_40_0, sr_355_0, sr_355_1, sr_355_2, sr_355_3, sr_355_4, sr_355_5, sr_361_2, sr_361_5, sr_361_6, sr_363_0, sr_363_1, sr_376_0, sr_376_2, sr_378_0, sr_378_1, sr_378_2, sr_378_4, sr_378_8, sr_378_10, sr_378_11, sr_378_12, sr_378_14, sr_378_20, sr_378_21, sr_378_22, sr_378_23, sr_378_24, sr_378_25, sr_378_26, am_vs, t2, HK, a2]
        repeat (first | rw [if_pos (by omega)] | rw [if_neg (by omega)])
        trivial
      · rw [o1]
        subst o2
        obtain ⟨r1, r2, r3, r4⟩ := rdI_spO hr h1 (by omega) (by omega) o1
        obtain ⟨E', z, b1, b2, b3⟩ := ih (j + 1) u E1 q (by omega) (bsR_D hB a1) o4 o3 r1 (by simp only at r3; omega)
        refine ⟨E', z, frD_t a1 b1, ?_, b3⟩
        rw [eX4_readShips_2]
        simp (disch := first | omega | simp only [am_ci, am_cr, am_ca]) only [eX4_readShips_3, eX4_readShips_4, eX4_readShips_7, eX4_readShips_8, eX4_readShips_11, eX4_readShips_14, eX4_readShips_17, eX4_readShips_20, eX4_readShips_21, eX4_readShips_24, eX4_readShips_27, eX4_readShips_28, eX4_readShips_29, eX4_readShips_32, am_bi, Int.reduceEq, Int.reduceLT, Int.reduceLE, Int.reduceToNat, ite_self, Decidable.not_not, not_true_eq_false, not_false_eq_true, ↓reduceIte, am_ci, am_cr, am_ca, am_b0, am_b1, am_ts, am_tn, am_then_some, List.cons_append, List.nil_append, ne_eq, iI_lit, iI_add, iI_sub, iI_mul, iI_neg, iI_lt, iI_le, iI_eq, iI_in, iI_clz, dI_ap, dI_wr, setR_s, wE_R, setR_2, setR_n, setR_o, updI_s, updI_n, updI_2, tl_0, tl_1, tl_2, tl_3, tl_4, tl_5, tl_6, tl_7, tl_8, tl_9, tl_10, tl_11, tl_12, tl_13, tl_14, tl_15, tl_16, tn_3, tn_5, tn_13, tn_21, tn_29, tn_33, tn_37, tn_41, tn_45, tn_49, tn_53, tn_57, tn_61, tn_40, tn_p, tn_0, true_and, and_true, sk_0, sk_1, sk_2, sl_2, sk_3, sl_3, sk_4, sl_4, sk_5, sl_5, sk_6, sl_6, sk_7, sl_7, sk_8, sl_8, sk_9, sl_9, sk_10, sl_10, sk_11, sl_11, sk_12, sl_12, sk_13, sk_14, sl_14, sk_15, sk_40, sk_41, sl_41, sk_330, sl_330, sk_355, sk_356, sl_356, sk_357, sl_357, sk_358, sl_358, sk_359, sl_359, sk_360, sl_360, sk_361, sk_362, sl_362, sk_363, sk_376, sk_377, sl_377, sk_378, sk_379, sl_379, sk_380, sl_380, sk_381, sl_381, sk_382, sl_382, sk_383, sl_383, sk_384, sl_384, sk_385, sl_385, sk_386, sl_386, sk_387, sl_387, sk_388, sl_388, sk_389, sl_389, sk_390, sl_390, sk_391, sl_391, sk_392, sl_392, sk_393, sl_393, sk_394, sl_394, sr_0_0, sr_0_1, sr_0_2, sr_0_3, sr_0_4, sr_0_5, sr_0_6, sr_0_7, sr_0_8, sr_0_9, sr_1_0, sr_1_1, sr_1_2, sr_13_0, sr_15_0, sr_15_2, sr_40_0, sr_355_0, sr_355_1, sr_355_2, sr_355_3, sr_355_4, sr_355_5, sr_361_2, sr_361_5, sr_361_6, sr_363_0, sr_363_1, sr_376_0, sr_376_2, sr_378_0, sr_378_1, sr_378_2, sr_378_4, sr_378_8, sr_378_10, sr_378_11, sr_378_12, sr_378_14, sr_378_20, sr_378_21, sr_378_22, sr_378_23, sr_378_24, sr_378_25, sr_378_26, am_vs, t2, HK, a2]
        repeat (first | rw [if_pos (by omega)] | rw [if_neg (by omega)])
        exact b2
    · rw [if_neg c]
      refine ⟨E, 1, ⟨fun b hb => rfl, rfl⟩, ?_, Or.inr ⟨t, p, rfl, rfl, hL, hv⟩⟩
      rw [eX4_readShips_2]
      simp (disch := first | omega | simp only [am_ci, am_cr, am_ca]) only [eX4_readShips_3, eX4_readShips_4, eX4_readShips_7, eX4_readShips_8, eX4_readShips_11, eX4_readShips_14, eX4_readShips_17, eX4_readShips_20, eX4_readShips_21, eX4_readShips_24, eX4_readShips_27, eX4_readShips_28, eX4_readShips_29, eX4_readShips_32, eX4_readShips_35, eX4_readShips_36, eX4_readShips_39, eX4_readShips_42, eX4_readShips_45, eX4_readShips_48, eX4_readShips_49, eX4_readShips_50, eX4_readShips_53, eX4_readShips_56, eX4_readShips_57, eX4_readShips_60, eX4_readShips_61, am_bi, Int.reduceEq, Int.reduceLT, Int.reduceLE, Int.reduceToNat, ite_self, Decidable.not_not, not_true_eq_false, not_false_eq_true, ↓reduceIte, am_ci, am_cr, am_ca, am_b0, am_b1, am_ts, am_tn, am_then_some, List.cons_append, List.nil_append, ne_eq, iI_lit, iI_add, iI_sub, iI_mul, iI_neg, iI_lt, iI_le, iI_eq, iI_in, iI_clz, dI_ap, dI_wr, setR_s, wE_R, setR_2, setR_n, setR_o, updI_s, updI_n, updI_2, tl_0, tl_1, tl_2, tl_3, tl_4, tl_5, tl_6, tl_7, tl_8, tl_9, tl_10, tl_11, tl_12, tl_13, tl_14, tl_15, tl_16, tn_3, tn_5, tn_13, tn_21, tn_29, tn_33, tn_37, tn_41, tn_45, tn_49, tn_53, tn_57, tn_61, tn_40, tn_p, tn_0, true_and, and_true, sk_0, sk_1, sk_2, sl_2, sk_3, sl_3, sk_4, sl_4, sk_5, sl_5, sk_6, sl_6, sk_7, sl_7, sk_8, sl_8, sk_9, sl_9, sk_10, sl_10, sk_11, sl_11, sk_12, sl_12, sk_13, sk_14, sl_14, sk_15, sk_40, sk_41, sl_41, sk_330, sl_330, sk_355, sk_356, sl_356, sk_357, sl_357, sk_358, sl_358, sk_359, sl_359, sk_360, sl_360, sk_361, sk_362, sl_362, sk_363, sk_376, sk_377, sl_377, sk_378, sk_379, sl_379, sk_380, sl_380, sk_381, sl_381, sk_382, sl_382, sk_383, sl_383, sk_384, sl_384, sk_385, sl_385, sk_386, sl_386, sk_387, sl_387, sk_388, sl_388, sk_389, sl_389, sk_390, sl_390, sk_391, sl_391, sk_392, sl_392, sk_393, sl_393, sk_394, sl_394, sr_0_0, sr_0_1, sr_0_2, sr_0_3, sr_0_4, sr_0_5, sr_0_6, sr_0_7, sr_0_8, sr_0_9, sr_1_0, sr_1_1, sr_1_2, sr_13_0, sr_15_0, sr_15_2, sr_40_0, sr_355_0, sr_355_1, sr_355_2, sr_355_3, sr_355_4, sr_355_5, sr_361_2, sr_361_5, sr_361_6, sr_363_0, sr_363_1, sr_376_0, sr_376_2, sr_378_0, sr_378_1, sr_378_2, sr_378_4, sr_378_8, sr_378_10, sr_378_11, sr_378_12, sr_378_14, sr_378_20, sr_378_21, sr_378_22, sr_378_23, sr_378_24, sr_378_25, sr_378_26, am_vs, t2, HK]
      repeat (first | rw [if_pos (by omega)] | rw [if_neg (by omega)])
      trivial
end
