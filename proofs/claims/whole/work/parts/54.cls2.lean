/-! ===== the class: signals, ships that tell ===== -/
theorem ci_61 {p q n k : Nat} (hn : n < 4) (hk : k < 4) : 61 + 4 * p + n = 61 + 4 * q + k ↔ p = q ∧ n = k := by omega
theorem heT_cell {p f : Nat} {L : Int} {t : Nat → Int} {q n : Nat} (hn : n < 4) : ∀ k, k ≤ 4 → (heT p f L t k).1 (61 + 4 * q + n) = if q = p ∧ n < k ∧ t (61 + 4 * p + n) < 0 ∧ ¬ t (61 + 4 * f + n) < 0 ∧ ¬ t 3 - t (61 + 4 * f + n) < 3 * L then t 3 else t (61 + 4 * q + n)
  | 0, _ => by rw [if_neg (by omega)]; rfl
  | k + 1, hk => by
    have ih := heT_cell (p := p) (f := f) (L := L) (t := t) (q := q) hn k (by omega)
    have ip := heT_cell (p := p) (f := f) (L := L) (t := t) (q := p) (n := k) (by omega) k (by omega)
    have ifr := heT_cell (p := p) (f := f) (L := L) (t := t) (q := f) (n := k) (by omega) k (by omega)
    rw [if_neg (by omega)] at ip ifr
    have e3 := heT_o p f L t (i := 3) (by omega) k
    rw [heT_s, ip, ifr, e3]
    split
    · rename_i hc
      simp only
      by_cases e : 61 + 4 * q + n = 61 + 4 * p + k
      · rw [e, updI_s]
        obtain ⟨e1, e2⟩ := (ci_61 hn (by omega)).mp e
        subst e1; subst e2
        rw [if_pos ⟨rfl, by omega, hc⟩]
      · rw [updI_n e, ih]
        have : ¬ (q = p ∧ n = k) := fun h => e (by rw [h.1, h.2])
        by_cases c : q = p ∧ n < k ∧ t (61 + 4 * p + n) < 0 ∧ ¬ t (61 + 4 * f + n) < 0 ∧ ¬ t 3 - t (61 + 4 * f + n) < 3 * L
        · rw [if_pos c, if_pos ⟨c.1, by omega, c.2.2⟩]
        · rw [if_neg c, if_neg (fun h => c ⟨h.1, by omega, h.2.2⟩)]
    · rename_i hc
      rw [ih]
      by_cases c : q = p ∧ n < k ∧ t (61 + 4 * p + n) < 0 ∧ ¬ t (61 + 4 * f + n) < 0 ∧ ¬ t 3 - t (61 + 4 * f + n) < 3 * L
      · rw [if_pos c, if_pos ⟨c.1, by omega, c.2.2⟩]
      · rw [if_neg c, if_neg]
        intro h
        by_cases e : n = k
        · subst e; exact hc h.2.2
        · exact c ⟨h.1, by omega, h.2.2⟩
theorem teT_cell {s p : Nat} {t : Nat → Int} {q n : Nat} (hs : s < 4) (hn : n < 4) : ∀ k, k ≤ 4 → (teT s p t k).1 (61 + 4 * q + n) = if q = p ∧ n < k ∧ (t (45 + s)).toNat / 2 ^ n % 2 = 1 ∧ t (61 + 4 * p + n) < 0 then t 3 else t (61 + 4 * q + n)
  | 0, _ => by rw [if_neg (by omega)]; rfl
  | k + 1, hk => by
    have ih := teT_cell (s := s) (p := p) (t := t) (q := q) hs hn k (by omega)
    have ip := teT_cell (s := s) (p := p) (t := t) (q := p) (n := k) hs (by omega) k (by omega)
    rw [if_neg (by omega)] at ip
    have e3 := teT_o s p t (i := 3) (by omega) (by omega) k
    have e45 := teT_o s p t (i := 45 + s) (by omega) (by omega) k
    rw [teT_s, ip, e3, e45]
    split
    · rename_i hc
      simp only
      rw [updI_n (by omega)]
      by_cases e : 61 + 4 * q + n = 61 + 4 * p + k
      · rw [e, updI_s]
        obtain ⟨e1, e2⟩ := (ci_61 hn (by omega)).mp e
        subst e1; subst e2
        rw [if_pos ⟨rfl, by omega, by omega, hc.2⟩]
      · rw [updI_n e, ih]
        have : ¬ (q = p ∧ n = k) := fun h => e (by rw [h.1, h.2])
        by_cases c : q = p ∧ n < k ∧ (t (45 + s)).toNat / 2 ^ n % 2 = 1 ∧ t (61 + 4 * p + n) < 0
        · rw [if_pos c, if_pos ⟨c.1, by omega, c.2.2⟩]
        · rw [if_neg c, if_neg (fun h => c ⟨h.1, by omega, h.2.2⟩)]
    · rename_i hc
      rw [ih]
      by_cases c : q = p ∧ n < k ∧ (t (45 + s)).toNat / 2 ^ n % 2 = 1 ∧ t (61 + 4 * p + n) < 0
      · rw [if_pos c, if_pos ⟨c.1, by omega, c.2.2⟩]
      · rw [if_neg c, if_neg]
        intro h
        by_cases e : n = k
        · subst e; exact hc ⟨by omega, h.2.2.2⟩
        · exact c ⟨h.1, by omega, h.2.2⟩
/-- news that isn't there yet is known nowhere -/
def kn0 (t : Nat → Int) : Prop := ∀ p n : Nat, p < 6 → n < 4 → t 4 ≤ n → t (61 + 4 * p + n) < 0
/-- nor told to a ship -/
def bt0 (t : Nat → Int) : Prop := ∀ s : Nat, s < 4 → (s : Int) < t 2 → (t (45 + s)).toNat < 2 ^ (t 4).toNat
theorem kn0_he {t : Nat → Int} (h : kn0 t) {p f : Nat} (hp : p < 6) (hf : f < 6) {L : Int} {k : Nat} (hk : k ≤ 4) : kn0 (heT p f L t k).1 := by
  intro q n hq hn h4
  rw [heT_o _ _ _ _ (by omega)] at h4
  have := h f n hf hn h4
  have := h q n hq hn h4
  rw [heT_cell hn k hk, if_neg (by omega)]
  omega
theorem RL0.kn {E : Nat → Nat → Int} {a : Nat} {t : Nat → Int} (h : RL0 E a t) {p n : Nat} (hp : p < 6) (hn : n < 4) : E (a + 11) (4 * p + n) = if t (61 + 4 * p + n) < 0 then -1000000 else t (61 + 4 * p + n) := by
  have := h.2.2.2.2 (4 * p + n) (by omega)
  rw [← Nat.add_assoc] at this
  exact this
theorem RL0_kn {E : Nat → Nat → Int} {a : Nat} {t : Nat → Int} (h : RL0 E a t) {p n : Nat} {z : Int} (hz : 0 ≤ z) : RL0 (setR E (a + 11) (updI (E (a + 11)) (4 * p + n) z)) a (updI t (61 + 4 * p + n) z) := by
  obtain ⟨h0, h1, h2, h3, h4⟩ := h
  refine ⟨?_, fun w hw hw2 => ?_, fun s hs hs2 => ?_, fun n hn hn2 => ?_, fun i hi => ?_⟩
  · simp (disch := omega) only [setR_n, updI_n]; exact h0
  · simp (disch := omega) only [setR_n, updI_n] at hw2 ⊢; exact h1 w hw hw2
  · simp (disch := omega) only [setR_n, updI_n] at hs2 ⊢; exact h2 s hs hs2
  · simp (disch := omega) only [setR_n, updI_n] at hn2 ⊢; exact h3 n hn hn2
  · rw [setR_s]
    by_cases e : i = 4 * p + n
    · have e2 : 61 + i = 61 + 4 * p + n := by omega
      rw [e2, e, updI_s, updI_s, if_neg (by omega)]
    · rw [updI_n e, updI_n (show 61 + i ≠ 61 + 4 * p + n by omega)]; exact h4 i hi
theorem RL0_pe {E : Nat → Nat → Int} {a : Nat} {t : Nat → Int} (h : RL0 E a t) {k : Nat} (hk : k < 4) {z : Int} : RL0 (setR E (a + 7) (updI (E (a + 7)) k z)) a (updI t (41 + k) z) := by
  obtain ⟨h0, h1, h2, h3, h4⟩ := h
  refine ⟨?_, fun w hw hw2 => ?_, fun s hs hs2 => ?_, fun n hn hn2 => ?_, fun i hi => ?_⟩
  · simp (disch := omega) only [setR_n, updI_n]; exact h0
  · simp (disch := omega) only [setR_n, updI_n] at hw2 ⊢; exact h1 w hw hw2
  · simp (disch := omega) only [setR_n, setR_s, updI_n] at hs2 ⊢
    have := h2 s hs hs2
    refine ⟨this.1, this.2.1, ?_, this.2.2.2⟩
    by_cases e : s = k
    · subst e; rw [updI_s, updI_s]
    · rw [updI_n e, updI_n (by omega)]; exact this.2.2.1
  · simp (disch := omega) only [setR_n, updI_n] at hn2 ⊢; exact h3 n hn hn2
  · simp (disch := omega) only [setR_n, updI_n]; exact h4 i hi
theorem RL0_to {E : Nat → Nat → Int} {a : Nat} {t : Nat → Int} (h : RL0 E a t) {k : Nat} (hk : k < 4) {z : Int} : RL0 (setR E (a + 8) (updI (E (a + 8)) k z)) a (updI t (45 + k) z) := by
  obtain ⟨h0, h1, h2, h3, h4⟩ := h
  refine ⟨?_, fun w hw hw2 => ?_, fun s hs hs2 => ?_, fun n hn hn2 => ?_, fun i hi => ?_⟩
  · simp (disch := omega) only [setR_n, updI_n]; exact h0
  · simp (disch := omega) only [setR_n, updI_n] at hw2 ⊢; exact h1 w hw hw2
  · simp (disch := omega) only [setR_n, setR_s, updI_n] at hs2 ⊢
    have := h2 s hs hs2
    refine ⟨this.1, this.2.1, this.2.2.1, ?_⟩
    by_cases e : s = k
    · subst e; rw [updI_s, updI_s]
    · rw [updI_n e, updI_n (by omega)]; exact this.2.2.2
  · simp (disch := omega) only [setR_n, updI_n] at hn2 ⊢; exact h3 n hn hn2
  · simp (disch := omega) only [setR_n, updI_n]; exact h4 i hi
/-- days of arrival are no matter here -/
theorem RL0_du {E : Nat → Nat → Int} {a : Nat} {t : Nat → Int} (h : RL0 E a t) {k : Nat} (hk : k < 4) {z : Int} : RL0 E a (updI t (37 + k) z) := by
  obtain ⟨h0, h1, h2, h3, h4⟩ := h
  refine ⟨?_, fun w hw hw2 => ?_, fun s hs hs2 => ?_, fun n hn hn2 => ?_, fun i hi => ?_⟩
  · simp (disch := omega) only [updI_n]; exact h0
  · simp (disch := omega) only [updI_n] at hw2 ⊢; exact h1 w hw hw2
  · simp (disch := omega) only [updI_n] at hs2 ⊢; exact h2 s hs hs2
  · simp (disch := omega) only [updI_n] at hn2 ⊢; exact h3 n hn hn2
  · simp (disch := omega) only [updI_n]; exact h4 i hi
/-- what a method did to the league at a, over the row u: nothing else has changed -/
def stp (E E' : Nat → Nat → Int) (a : Nat) (u : Nat → Int) : Prop := RL0 E' a u ∧ frL E E' a ∧ E' (a + 6) = E (a + 6)
theorem c_signal {d a w p f : Nat} {E : Nat → Nat → Int} {t : Nat → Int} (h : am_lg a) (hR : RL0 E a t) (hb : bT t) (hk0 : kn0 t) (hw8 : w < 8) (hw : (w : Int) < t 1) (h1 : 1 ≤ t (21 + w)) (hp : p < 6) (hf : f < 6) : ∃ E', stp E E' a (heT p f (t (21 + w)) t 4).1 ∧ am_sem (d + 3) 49 [.ref a, .int (iI w), .int (iI f), .int (iI p)] am_S0 (dI E) = some (some (.int (iI (heT p f (t (21 + w)) t 4).2)), am_S0, dI E') := by
  have a4 := hb.2.2.2.2.2.1
  have hL := (hb.2.2.2.2.2.2.1 w hw8).2.2
  obtain ⟨K, hK⟩ := Int.eq_ofNat_of_zero_le a4.1
  rw [heT_K (p := p) (K := K) hf (fun n h1 h2 => hk0 f n hf h2 (by omega)) h1 4 (by omega) (by omega)]
  generalize hL2 : t (21 + w) = L at *
  have H := am_fwd (I := fun k E' => stp E E' a (heT p f L t k).1) (ev := fun k E' R => ∀ v6, am_ev (am_sem (d + 2)) 3 cX3_signal 6 [.ref a, .int (iI w), .int (iI f), .int (iI p), .int (iI (heT p f L t k).2), .int (iI k), v6] [] am_S0 (dI E') R) (n := K) ?_ (k := 0) (x := E) (by omega) ⟨hR, frL_r E a, rfl⟩
  · obtain ⟨E', hE, he⟩ := H
    refine ⟨E', hE, mX3_signal rfl rfl ?_⟩
    have e4 : E' a 4 = (K : Int) := by rw [hE.1.1.2.2.2.2, heT_o _ _ _ _ (by omega), hK]
    simp (disch := first | omega | simp only [am_ci, am_cr, am_ca]) only [eX3_signal_0, eX3_signal_1, eX3_signal_3, eX3_signal_4, am_bi, Int.reduceEq, Int.reduceLT, Int.reduceLE, Int.reduceToNat, ite_self, Decidable.not_not, not_true_eq_false, not_false_eq_true, ↓reduceIte, am_ci, am_cr, am_ca, am_b0, am_b1, am_ts, am_tn, am_then_some, List.cons_append, List.nil_append, ne_eq, iI_lit, iI_add, iI_sub, iI_mul, iI_neg, iI_lt, iI_le, iI_eq, iI_in, iI_clz, dI_ap, dI_wr, setR_s, wE_R, setR_2, setR_n, setR_o, updI_s, updI_n, updI_2, tl_0, tl_1, tl_2, tl_3, tl_4, tl_5, tl_6, tl_7, tl_8, tl_9, tl_10, tl_11, tl_12, tl_13, tl_14, tl_15, tl_16, tn_3, tn_5, tn_13, tn_21, tn_29, tn_33, tn_37, tn_41, tn_45, tn_49, tn_53, tn_57, tn_61, tn_40, tn_p, tn_0, true_and, and_true, sk_0, sk_1, sk_2, sl_2, sk_3, sl_3, sk_4, sl_4, sk_5, sl_5, sk_6, sl_6, sk_7, sl_7, sk_8, sl_8, sk_9, sl_9, sk_10, sl_10, sk_11, sl_11, sk_12, sl_12, sk_13, sk_14, sl_14, sk_15, sk_40, sk_41, sl_41, sk_330, sl_330, sk_355, sk_356, sl_356, sk_357, sl_357, sk_358, sl_358, sk_359, sl_359, sk_360, sl_360, sk_361, sk_362, sl_362, sk_363, sk_376, sk_377, sl_377, sk_378, sk_379, sl_379, sk_380, sl_380, sk_381, sl_381, sk_382, sl_382, sk_383, sl_383, sk_384, sl_384, sk_385, sl_385, sk_386, sl_386, sk_387, sl_387, sk_388, sl_388, sk_389, sl_389, sk_390, sl_390, sk_391, sl_391, sk_392, sl_392, sk_393, sl_393, sk_394, sl_394, sr_0_0, sr_0_1, sr_0_2, sr_0_3, sr_0_4, sr_0_5, sr_0_6, sr_0_7, sr_0_8, sr_0_9, sr_1_0, sr_1_1, sr_1_2, sr_13_0, sr_15_0, sr_15_2, sr_40_0, sr_355_0, sr_355_1, sr_355_2, sr_355_3, sr_355_4, sr_355_5, sr_361_2, sr_361_5, sr_361_6, sr_363_0, sr_363_1, sr_376_0, sr_376_2, sr_378_0, sr_378_1, sr_378_2, sr_378_4, sr_378_8, sr_378_10, sr_378_11, sr_378_12, sr_378_14, sr_378_20, sr_378_21, sr_378_22, sr_378_23, sr_378_24, sr_378_25, sr_378_26, am_vs]
    refine he _ (fun v6 => ?_) _
    rw [eX3_signal_6]
    simp (disch := first | omega | simp only [am_ci, am_cr, am_ca]) only [eX3_signal_8, eX3_signal_9, eX3_signal_12, eX3_signal_15, eX3_signal_16, eX3_signal_17, eX3_signal_19, eX3_signal_22, eX3_signal_24, eX3_signal_26, eX3_signal_28, eX3_signal_31, eX3_signal_32, eX3_signal_35, eX3_signal_37, eX3_signal_38, eX3_signal_39, eX3_signal_40, eX3_signal_42, eX3_signal_45, eX3_signal_48, eX3_signal_50, eX3_signal_51, eX3_signal_52, eX3_signal_54, eX3_signal_57, eX3_signal_58, eX3_signal_60, eX3_signal_63, eX3_signal_66, eX3_signal_68, am_bi, Int.reduceEq, Int.reduceLT, Int.reduceLE, Int.reduceToNat, ite_self, Decidable.not_not, not_true_eq_false, not_false_eq_true, ↓reduceIte, am_ci, am_cr, am_ca, am_b0, am_b1, am_ts, am_tn, am_then_some, List.cons_append, List.nil_append, ne_eq, iI_lit, iI_add, iI_sub, iI_mul, iI_neg, iI_lt, iI_le, iI_eq, iI_in, iI_clz, dI_ap, dI_wr, setR_s, wE_R, setR_2, setR_n, setR_o, updI_s, updI_n, updI_2, tl_0, tl_1, tl_2, tl_3, tl_4, tl_5, tl_6, tl_7, tl_8, tl_9, tl_10, tl_11, tl_12, tl_13, tl_14, tl_15, tl_16, tn_3, tn_5, tn_13, tn_21, tn_29, tn_33, tn_37, tn_41, tn_45, tn_49, tn_53, tn_57, tn_61, tn_40, tn_p, tn_0, true_and, and_true, sk_0, sk_1, sk_2, sl_2, sk_3, sl_3, sk_4, sl_4, sk_5, sl_5, sk_6, sl_6, sk_7, sl_7, sk_8, sl_8, sk_9, sl_9, sk_10, sl_10, sk_11, sl_11, sk_12, sl_12, sk_13, sk_14, sl_14, sk_15, sk_40, sk_41, sl_41, sk_330, sl_330, sk_355, sk_356, sl_356, sk_357, sl_357, sk_358, sl_358, sk_359, sl_359, sk_360, sl_360, sk_361, sk_362, sl_362, sk_363, sk_376, sk_377, sl_377, sk_378, sk_379, sl_379, sk_380, sl_380, sk_381, sl_381, sk_382, sl_382, sk_383, sl_383, sk_384, sl_384, sk_385, sl_385, sk_386, sl_386, sk_387, sl_387, sk_388, sl_388, sk_389, sl_389, sk_390, sl_390, sk_391, sl_391, sk_392, sl_392, sk_393, sl_393, sk_394, sl_394, sr_0_0, sr_0_1, sr_0_2, sr_0_3, sr_0_4, sr_0_5, sr_0_6, sr_0_7, sr_0_8, sr_0_9, sr_1_0, sr_1_1, sr_1_2, sr_13_0, sr_15_0, sr_15_2, sr_40_0, sr_355_0, sr_355_1, sr_355_2, sr_355_3, sr_355_4, sr_355_5, sr_361_2, sr_361_5, sr_361_6, sr_363_0, sr_363_1, sr_376_0, sr_376_2, sr_378_0, sr_378_1, sr_378_2, sr_378_4, sr_378_8, sr_378_10, sr_378_11, sr_378_12, sr_378_14, sr_378_20, sr_378_21, sr_378_22, sr_378_23, sr_378_24, sr_378_25, sr_378_26, am_vs, h.k, e4]
    all_goals ((repeat' split) <;> first | rfl | trivial | (exfalso; omega))
  · intro k E1 hk hE
    obtain ⟨hR1, hF, hD⟩ := hE
    have k4 : k < 4 := by omega
    have e4 : E1 a 4 = (K : Int) := by rw [hR1.1.2.2.2.2, heT_o _ _ _ _ (by omega), hK]
    have e3 : E1 a 3 = t 3 := by rw [hR1.1.2.2.2.1, heT_o _ _ _ _ (by omega)]
    have e21 : E1 (a + 3) w = L := by rw [(hR1.2.1 w hw8 (by rw [heT_o _ _ _ _ (by omega)]; exact hw)).2.2, heT_o _ _ _ _ (by omega), hL2]
    have kf := hR1.kn hf k4
    have kp := hR1.kn hp k4
    have m1 := heT_2 k (p := p) (f := f) (L := L) (t := t)
    have hC := heT_C hb.1 k (p := p) (f := f) (L := L)
    have c1 := hC (61 + 4 * f + k)
    have c2 := hC (61 + 4 * p + k)
    have t3 := hb.2.2.2.2.1
    have H1 := c_knownSince (d := d + 1) (E := E1) h hf k4
    have H2 := c_daysOn (d := d + 1) (E := E1) (m := 6) h hw8 (by omega) (by omega)
    rw [e21, show dyV L 6 = 3 * L from rfl] at H2
    have H3 := c_learn (d := d) (E := E1) (a := a) (n := k) h hp k4 (by rw [kp]; split <;> omega)
    have ht3 := heT_o p f L t (i := 3) (by omega) k
    rw [heT_s, ht3]
    by_cases hc : (heT p f L t k).1 (61 + 4 * p + k) < 0 ∧ ¬ (heT p f L t k).1 (61 + 4 * f + k) < 0 ∧ ¬ t 3 - (heT p f L t k).1 (61 + 4 * f + k) < 3 * L
    · rw [if_pos hc]
      rw [if_pos hc.1] at kp
      rw [if_neg hc.2.1] at kf
      rw [if_pos kp] at H3
      rw [e3] at H3
      refine ⟨setR E1 (a + 11) (updI (E1 (a + 11)) (4 * p + k) (t 3)), ⟨RL0_kn hR1 t3.1, frL_s hF (by omega) _, by rw [setR_n (by omega)]; exact hD⟩, fun R ih v6 => ?_⟩
      rw [eX3_signal_6]
      simp (disch := first | omega | simp only [am_ci, am_cr, am_ca]) only [eX3_signal_8, eX3_signal_9, eX3_signal_12, eX3_signal_15, eX3_signal_16, eX3_signal_17, eX3_signal_19, eX3_signal_22, eX3_signal_24, eX3_signal_26, eX3_signal_28, eX3_signal_31, eX3_signal_32, eX3_signal_35, eX3_signal_37, eX3_signal_38, eX3_signal_39, eX3_signal_40, eX3_signal_42, eX3_signal_45, eX3_signal_48, eX3_signal_50, eX3_signal_51, eX3_signal_52, eX3_signal_54, eX3_signal_57, eX3_signal_58, eX3_signal_60, eX3_signal_63, am_bi, Int.reduceEq, Int.reduceLT, Int.reduceLE, Int.reduceToNat, ite_self, Decidable.not_not, not_true_eq_false, not_false_eq_true, ↓reduceIte, am_ci, am_cr, am_ca, am_b0, am_b1, am_ts, am_tn, am_then_some, List.cons_append, List.nil_append, ne_eq, iI_lit, iI_add, iI_sub, iI_mul, iI_neg, iI_lt, iI_le, iI_eq, iI_in, iI_clz, dI_ap, dI_wr, setR_s, wE_R, setR_2, setR_n, setR_o, updI_s, updI_n, updI_2, tl_0, tl_1, tl_2, tl_3, tl_4, tl_5, tl_6, tl_7, tl_8, tl_9, tl_10, tl_11, tl_12, tl_13, tl_14, tl_15, tl_16, tn_3, tn_5, tn_13, tn_21, tn_29, tn_33, tn_37, tn_41, tn_45, tn_49, tn_53, tn_57, tn_61, tn_40, tn_p, tn_0, true_and, and_true, sk_0, sk_1, sk_2, sl_2, sk_3, sl_3, sk_4, sl_4, sk_5, sl_5, sk_6, sl_6, sk_7, sl_7, sk_8, sl_8, sk_9, sl_9, sk_10, sl_10, sk_11, sl_11, sk_12, sl_12, sk_13, sk_14, sl_14, sk_15, sk_40, sk_41, sl_41, sk_330, sl_330, sk_355, sk_356, sl_356, sk_357, sl_357, sk_358, sl_358, sk_359, sl_359, sk_360, sl_360, sk_361, sk_362, sl_362, sk_363, sk_376, sk_377, sl_377, sk_378, sk_379, sl_379, sk_380, sl_380, sk_381, sl_381, sk_382, sl_382, sk_383, sl_383, sk_384, sl_384, sk_385, sl_385, sk_386, sl_386, sk_387, sl_387, sk_388, sl_388, sk_389, sl_389, sk_390, sl_390, sk_391, sl_391, sk_392, sl_392, sk_393, sl_393, sk_394, sl_394, sr_0_0, sr_0_1, sr_0_2, sr_0_3, sr_0_4, sr_0_5, sr_0_6, sr_0_7, sr_0_8, sr_0_9, sr_1_0, sr_1_1, sr_1_2, sr_13_0, sr_15_0, sr_15_2, sr_40_0, sr_355_0, sr_355_1, sr_355_2, sr_355_3, sr_355_4, sr_355_5, sr_361_2, sr_361_5, sr_361_6, sr_363_0, sr_363_1, sr_376_0, sr_376_2, sr_378_0, sr_378_1, sr_378_2, sr_378_4, sr_378_8, sr_378_10, sr_378_11, sr_378_12, sr_378_14, sr_378_20, sr_378_21, sr_378_22, sr_378_23, sr_378_24, sr_378_25, sr_378_26, am_vs, h.k, e4, H1, kf, e3, H2, H3]
      repeat (first | rw [if_pos (by omega)] | rw [if_neg (by omega)])
      exact ih _
    · rw [if_neg hc]
      refine ⟨E1, ⟨hR1, hF, hD⟩, fun R ih v6 => ?_⟩
      rw [eX3_signal_6]
      by_cases c3 : (heT p f L t k).1 (61 + 4 * f + k) < 0
      · rw [if_pos c3] at kf
        simp (disch := first | omega | simp only [am_ci, am_cr, am_ca]) only [eX3_signal_8, eX3_signal_9, eX3_signal_12, eX3_signal_15, eX3_signal_16, eX3_signal_17, eX3_signal_19, eX3_signal_22, eX3_signal_24, eX3_signal_26, eX3_signal_28, eX3_signal_31, eX3_signal_32, eX3_signal_35, eX3_signal_37, eX3_signal_38, eX3_signal_39, eX3_signal_40, eX3_signal_42, eX3_signal_45, eX3_signal_48, eX3_signal_50, eX3_signal_51, eX3_signal_52, eX3_signal_54, eX3_signal_57, eX3_signal_58, eX3_signal_60, eX3_signal_63, am_bi, Int.reduceEq, Int.reduceLT, Int.reduceLE, Int.reduceToNat, ite_self, Decidable.not_not, not_true_eq_false, not_false_eq_true, ↓reduceIte, am_ci, am_cr, am_ca, am_b0, am_b1, am_ts, am_tn, am_then_some, List.cons_append, List.nil_append, ne_eq, iI_lit, iI_add, iI_sub, iI_mul, iI_neg, iI_lt, iI_le, iI_eq, iI_in, iI_clz, dI_ap, dI_wr, setR_s, wE_R, setR_2, setR_n, setR_o, updI_s, updI_n, updI_2, tl_0, tl_1, tl_2, tl_3, tl_4, tl_5, tl_6, tl_7, tl_8, tl_9, tl_10, tl_11, tl_12, tl_13, tl_14, tl_15, tl_16, tn_3, tn_5, tn_13, tn_21, tn_29, tn_33, tn_37, tn_41, tn_45, tn_49, tn_53, tn_57, tn_61, tn_40, tn_p, tn_0, true_and, and_true, sk_0, sk_1, sk_2, sl_2, sk_3, sl_3, sk_4, sl_4, sk_5, sl_5, sk_6, sl_6, sk_7, sl_7, sk_8, sl_8, sk_9, sl_9, sk_10, sl_10, sk_11, sl_11, sk_12, sl_12, sk_13, sk_14, sl_14, sk_15, sk_40, sk_41, sl_41, sk_330, sl_330, sk_355, sk_356, sl_356, sk_357, sl_357, sk_358, sl_358, sk_359, sl_359, sk_360, sl_360, sk_361, sk_362, sl_362, sk_363, sk_376, sk_377, sl_377, sk_378, sk_379, sl_379, sk_380, sl_380, sk_381, sl_381, sk_382, sl_382, sk_383, sl_383, sk_384, sl_384, sk_385, sl_385, sk_386, sl_386, sk_387, sl_387, sk_388, sl_388, sk_389, sl_389, sk_390, sl_390, sk_391, sl_391, sk_392, sl_392, sk_393, sl_393, sk_394, sl_394, sr_0_0, sr_0_1, sr_0_2, sr_0_3, sr_0_4, sr_0_5, sr_0_6, sr_0_7, sr_0_8, sr_0_9, sr_1_0, sr_1_1, sr_1_2, sr_13_0, sr_15_0, sr_15_2, sr_40_0, sr_355_0, sr_355_1, sr_355_2, sr_355_3, sr_355_4, sr_355_5, sr_361_2, sr_361_5, sr_361_6, sr_363_0, sr_363_1, sr_376_0, sr_376_2, sr_378_0, sr_378_1, sr_378_2, sr_378_4, sr_378_8, sr_378_10, sr_378_11, sr_378_12, sr_378_14, sr_378_20, sr_378_21, sr_378_22, sr_378_23, sr_378_24, sr_378_25, sr_378_26, am_vs, h.k, e4, H1, kf, e3]
        repeat (first | rw [if_pos (by omega)] | rw [if_neg (by omega)])
        exact ih _
      · rw [if_neg c3] at kf
        by_cases c4 : t 3 - (heT p f L t k).1 (61 + 4 * f + k) < 3 * L
        · simp (disch := first | omega | simp only [am_ci, am_cr, am_ca]) only [eX3_signal_8, eX3_signal_9, eX3_signal_12, eX3_signal_15, eX3_signal_16, eX3_signal_17, eX3_signal_19, eX3_signal_22, eX3_signal_24, eX3_signal_26, eX3_signal_28, eX3_signal_31, eX3_signal_32, eX3_signal_35, eX3_signal_37, eX3_signal_38, eX3_signal_39, eX3_signal_40, eX3_signal_42, eX3_signal_45, eX3_signal_48, eX3_signal_50, eX3_signal_51, eX3_signal_52, eX3_signal_54, eX3_signal_57, eX3_signal_58, eX3_signal_60, eX3_signal_63, am_bi, Int.reduceEq, Int.reduceLT, Int.reduceLE, Int.reduceToNat, ite_self, Decidable.not_not, not_true_eq_false, not_false_eq_true, ↓reduceIte, am_ci, am_cr, am_ca, am_b0, am_b1, am_ts, am_tn, am_then_some, List.cons_append, List.nil_append, ne_eq, iI_lit, iI_add, iI_sub, iI_mul, iI_neg, iI_lt, iI_le, iI_eq, iI_in, iI_clz, dI_ap, dI_wr, setR_s, wE_R, setR_2, setR_n, setR_o, updI_s, updI_n, updI_2, tl_0, tl_1, tl_2, tl_3, tl_4, tl_5, tl_6, tl_7, tl_8, tl_9, tl_10, tl_11, tl_12, tl_13, tl_14, tl_15, tl_16, tn_3, tn_5, tn_13, tn_21, tn_29, tn_33, tn_37, tn_41, tn_45, tn_49, tn_53, tn_57, tn_61, tn_40, tn_p, tn_0, true_and, and_true, sk_0, sk_1, sk_2, sl_2, sk_3, sl_3, sk_4, sl_4, sk_5, sl_5, sk_6, sl_6, sk_7, sl_7, sk_8, sl_8, sk_9, sl_9, sk_10, sl_10, sk_11, sl_11, sk_12, sl_12, sk_13, sk_14, sl_14, sk_15, sk_40, sk_41, sl_41, sk_330, sl_330, sk_355, sk_356, sl_356, sk_357, sl_357, sk_358, sl_358, sk_359, sl_359, sk_360, sl_360, sk_361, sk_362, sl_362, sk_363, sk_376, sk_377, sl_377, sk_378, sk_379, sl_379, sk_380, sl_380, sk_381, sl_381, sk_382, sl_382, sk_383, sl_383, sk_384, sl_384, sk_385, sl_385, sk_386, sl_386, sk_387, sl_387, sk_388, sl_388, sk_389, sl_389, sk_390, sl_390, sk_391, sl_391, sk_392, sl_392, sk_393, sl_393, sk_394, sl_394, sr_0_0, sr_0_1, sr_0_2, sr_0_3, sr_0_4, sr_0_5, sr_0_6, sr_0_7, sr_0_8, sr_0_9, sr_1_0, sr_1_1, sr_1_2, sr_13_0, sr_15_0, sr_15_2, sr_40_0, sr_355_0, sr_355_1, sr_355_2, sr_355_3, sr_355_4, sr_355_5, sr_361_2, sr_361_5, sr_361_6, sr_363_0, sr_363_1, sr_376_0, sr_376_2, sr_378_0, sr_378_1, sr_378_2, sr_378_4, sr_378_8, sr_378_10, sr_378_11, sr_378_12, sr_378_14, sr_378_20, sr_378_21, sr_378_22, sr_378_23, sr_378_24, sr_378_25, sr_378_26, am_vs, h.k, e4, H1, kf, e3, H2]
          repeat (first | rw [if_pos (by omega)] | rw [if_neg (by omega)])
          exact ih _
        · rw [if_neg (by rw [kp, if_neg (by omega)]; omega)] at H3
          simp (disch := first | omega | simp only [am_ci, am_cr, am_ca]) only [eX3_signal_8, eX3_signal_9, eX3_signal_12, eX3_signal_15, eX3_signal_16, eX3_signal_17, eX3_signal_19, eX3_signal_22, eX3_signal_24, eX3_signal_26, eX3_signal_28, eX3_signal_31, eX3_signal_32, eX3_signal_35, eX3_signal_37, eX3_signal_38, eX3_signal_39, eX3_signal_40, eX3_signal_42, eX3_signal_45, eX3_signal_48, eX3_signal_50, eX3_signal_51, eX3_signal_52, eX3_signal_54, eX3_signal_57, eX3_signal_58, eX3_signal_60, eX3_signal_63, am_bi, Int.reduceEq, Int.reduceLT, Int.reduceLE, Int.reduceToNat, ite_self, Decidable.not_not, not_true_eq_false, not_false_eq_true, ↓reduceIte, am_ci, am_cr, am_ca, am_b0, am_b1, am_ts, am_tn, am_then_some, List.cons_append, List.nil_append, ne_eq, iI_lit, iI_add, iI_sub, iI_mul, iI_neg, iI_lt, iI_le, iI_eq, iI_in, iI_clz, dI_ap, dI_wr, setR_s, wE_R, setR_2, setR_n, setR_o, updI_s, updI_n, updI_2, tl_0, tl_1, tl_2, tl_3, tl_4, tl_5, tl_6, tl_7, tl_8, tl_9, tl_10, tl_11, tl_12, tl_13, tl_14, tl_15, tl_16, tn_3, tn_5, tn_13, tn_21, tn_29, tn_33, tn_37, tn_41, tn_45, tn_49, tn_53, tn_57, tn_61, tn_40, tn_p, tn_0, true_and, and_true, sk_0, sk_1, sk_2, sl_2, sk_3, sl_3, sk_4, sl_4, sk_5, sl_5, sk_6, sl_6, sk_7, sl_7, sk_8, sl_8, sk_9, sl_9, sk_10, sl_10, sk_11, sl_11, sk_12, sl_12, sk_13, sk_14, sl_14, sk_15, sk_40, sk_41, sl_41, sk_330, sl_330, sk_355, sk_356, sl_356, sk_357, sl_357, sk_358, sl_358, sk_359, sl_359, sk_360, sl_360, sk_361, sk_362, sl_362, sk_363, sk_376, sk_377, sl_377, sk_378, sk_379, sl_379, sk_380, sl_380, sk_381, sl_381, sk_382, sl_382, sk_383, sl_383, sk_384, sl_384, sk_385, sl_385, sk_386, sl_386, sk_387, sl_387, sk_388, sl_388, sk_389, sl_389, sk_390, sl_390, sk_391, sl_391, sk_392, sl_392, sk_393, sl_393, sk_394, sl_394, sr_0_0, sr_0_1, sr_0_2, sr_0_3, sr_0_4, sr_0_5, sr_0_6, sr_0_7, sr_0_8, sr_0_9, sr_1_0, sr_1_1, sr_1_2, sr_13_0, sr_15_0, sr_15_2, sr_40_0, sr_355_0, sr_355_1, sr_355_2, sr_355_3, sr_355_4, sr_355_5, sr_361_2, sr_361_5, sr_361_6, sr_363_0, sr_363_1, sr_376_0, sr_376_2, sr_378_0, sr_378_1, sr_378_2, sr_378_4, sr_378_8, sr_378_10, sr_378_11, sr_378_12, sr_378_14, sr_378_20, sr_378_21, sr_378_22, sr_378_23, sr_378_24, sr_378_25, sr_378_26, am_vs, h.k, e4, H1, kf, e3, H2, H3, Int.add_zero]
          repeat (first | rw [if_pos (by omega)] | rw [if_neg (by omega)])
          exact ih _
