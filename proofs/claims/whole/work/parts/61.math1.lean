/-! ===== acts given back; what a day does to what is known ===== -/
theorem c_giveBack {d n x : Nat} {f : Nat → Int} {E : Nat → Nat → Int} (hA : acR E n x f) (hn : 0 < n) : ∃ E' x', am_sem (d + 2) 3 [.ref 40, .ref 28] am_S0 (dI E) = some (none, am_S0, dI E') ∧ (∀ b, (b < 28 ∨ 40 < b) → E' b = E b) ∧ acR E' (n - 1) x' f ∧ lgR E' 28 (lrT f (85 * (n - 1))) := by
  obtain ⟨h1, h2, h3, h4, h5⟩ := hA
  have x1 : ∃ x' : Nat, x' < 24 ∧ (x' : Int) = (if (x : Int) ≤ 0 then 23 else (x : Int) - 1) ∧ (∀ i, i < 23 → (x' + 23 - i) % 24 = (x + 23 - (i + 1)) % 24) ∧ (x + 23) % 24 = x' := by
    by_cases c : x = 0
    · exact ⟨23, by omega, by rw [if_pos (by omega)]; omega, fun i hi => by omega, by omega⟩
    · exact ⟨x - 1, by omega, by rw [if_neg (by omega)]; omega, fun i hi => by omega, by omega⟩
  obtain ⟨x', y1, y2, y3, y4⟩ := x1
  have hx := am_lgB x' y1
  have H1 := c_become (d := d) (a := 28) (b := 42 + 12 * x') (E := setR E 40 (updI (updI (E 40) 1 x') 2 ((n : Int) - 1))) am_lg28 hx.1 (by omega)
  have fb := bcE_fr (setR E 40 (updI (updI (E 40) 1 x') 2 ((n : Int) - 1))) 28 (42 + 12 * x')
  have fr : ∀ b, (b < 28 ∨ 40 < b) → bcE (setR E 40 (updI (updI (E 40) 1 x') 2 ((n : Int) - 1))) 28 (42 + 12 * x') b = E b := fun b hb => by rw [fb b (by omega), setR_n (by omega)]
  have o40 : bcE (setR E 40 (updI (updI (E 40) 1 x') 2 ((n : Int) - 1))) 28 (42 + 12 * x') 40 = updI (updI (E 40) 1 x') 2 ((n : Int) - 1) := by rw [fb 40 (by omega), setR_s]
  refine ⟨bcE (setR E 40 (updI (updI (E 40) 1 x') 2 ((n : Int) - 1))) 28 (42 + 12 * x'), x', mX0_giveBack rfl rfl ?_, fr, ?_, ?_⟩
  · by_cases c : (x : Int) ≤ 0
    · rw [if_pos c] at y2
      rw [y2] at H1 ⊢
      have e23 : x' = 23 := by omega
      subst e23
      have r23 := rb_0 y1
      simp (disch := first | omega | simp only [am_ci, am_cr, am_ca]) only [eX0_giveBack_0, eX0_giveBack_1, eX0_giveBack_4, eX0_giveBack_7, eX0_giveBack_8, eX0_giveBack_9, eX0_giveBack_12, eX0_giveBack_15, eX0_giveBack_16, eX0_giveBack_19, eX0_giveBack_20, eX0_giveBack_21, eX0_giveBack_24, eX0_giveBack_26, eX0_giveBack_29, eX0_giveBack_30, eX0_giveBack_31, eX0_giveBack_34, eX0_giveBack_35, eX0_giveBack_36, eX0_giveBack_39, eX0_giveBack_40, eX0_giveBack_41, eX0_giveBack_44, eX0_giveBack_45, eX0_giveBack_48, eX0_giveBack_49, eX0_giveBack_52, am_bi, Int.reduceEq, Int.reduceLT, Int.reduceLE, Int.reduceToNat, ite_self, Decidable.not_not, not_true_eq_false, not_false_eq_true, ↓reduceIte, am_ci, am_cr, am_ca, am_b0, am_b1, am_ts, am_tn, am_then_some, List.cons_append, List.nil_append, ne_eq, iI_lit, iI_add, iI_sub, iI_mul, iI_neg, iI_lt, iI_le, iI_eq, iI_in, iI_clz, dI_ap, dI_wr, setR_s, wE_R, setR_2, setR_n, setR_o, updI_s, updI_n, updI_2, tl_0, tl_1, tl_2, tl_3, tl_4, tl_5, tl_6, tl_7, tl_8, tl_9, tl_10, tl_11, tl_12, tl_13, tl_14, tl_15, tl_16, tn_3, tn_5, tn_13, tn_21, tn_29, tn_33, tn_37, tn_41, tn_45, tn_49, tn_53, tn_57, tn_61, tn_40, tn_p, tn_0, true_and, and_true, sk_0, sk_1, sk_2, sl_2, sk_3, sl_3, sk_4, sl_4, sk_5, sl_5, sk_6, sl_6, sk_7, sl_7, sk_8, sl_8, sk_9, sl_9, sk_10, sl_10, sk_11, sl_11, sk_12, sl_12, sk_13, sk_14, sl_14, sk_15, sk_40, sk_41, sl_41, sk_330, sl_330, sk_355, sk_356, sl_356, sk_357, sl_357, sk_358, sl_358, sk_359, sl_359, sk_360, sl_360, sk_361, sk_362, sl_362, sk_363, sk_376, sk_377, sl_377, sk_378, sk_379, sl_379, sk_380, sl_380, sk_381, sl_381, sk_382, sl_382, sk_383, sl_383, sk_384, sl_384, sk_385, sl_385, sk_386, sl_386, sk_387, sl_387, sk_388, sl_388, sk_389, sl_389, sk_390, sl_390, sk_391, sl_391, sk_392, sl_392, sk_393, sl_393, sk_394, sl_394, sr_0_0, sr_0_1, sr_0_2, sr_0_3, sr_0_4, sr_0_5, sr_0_6, sr_0_7, sr_0_8, sr_0_9, sr_1_0, sr_1_1, sr_1_2, sr_13_0, sr_15_0, sr_15_2, sr_40_0, sr_355_0, sr_355_1, sr_355_2, sr_355_3, sr_355_4, sr_355_5, sr_361_2, sr_361_5, sr_361_6, sr_363_0, sr_363_1, sr_376_0, sr_376_2, sr_378_0, sr_378_1, sr_378_2, sr_378_4, sr_378_8, sr_378_10, sr_378_11, sr_378_12, sr_378_14, sr_378_20, sr_378_21, sr_378_22, sr_378_23, sr_378_24, sr_378_25, sr_378_26, am_vs, h1, h2, c, r23, am_lg28.k, H1]
      all_goals ((repeat' split) <;> first | rfl | trivial | (exfalso; omega))
    · rw [if_neg c] at y2
      rw [y2] at H1 ⊢
      have ex : ((x : Int) - 1).toNat = x' := by omega
      have r23 := rb_0 y1
      simp (disch := first | omega | simp only [am_ci, am_cr, am_ca]) only [eX0_giveBack_0, eX0_giveBack_1, eX0_giveBack_4, eX0_giveBack_7, eX0_giveBack_8, eX0_giveBack_9, eX0_giveBack_12, eX0_giveBack_15, eX0_giveBack_16, eX0_giveBack_19, eX0_giveBack_20, eX0_giveBack_21, eX0_giveBack_24, eX0_giveBack_26, eX0_giveBack_29, eX0_giveBack_30, eX0_giveBack_31, eX0_giveBack_34, eX0_giveBack_35, eX0_giveBack_36, eX0_giveBack_39, eX0_giveBack_40, eX0_giveBack_41, eX0_giveBack_44, eX0_giveBack_45, eX0_giveBack_48, eX0_giveBack_49, eX0_giveBack_52, am_bi, Int.reduceEq, Int.reduceLT, Int.reduceLE, Int.reduceToNat, ite_self, Decidable.not_not, not_true_eq_false, not_false_eq_true, ↓reduceIte, am_ci, am_cr, am_ca, am_b0, am_b1, am_ts, am_tn, am_then_some, List.cons_append, List.nil_append, ne_eq, iI_lit, iI_add, iI_sub, iI_mul, iI_neg, iI_lt, iI_le, iI_eq, iI_in, iI_clz, dI_ap, dI_wr, setR_s, wE_R, setR_2, setR_n, setR_o, updI_s, updI_n, updI_2, tl_0, tl_1, tl_2, tl_3, tl_4, tl_5, tl_6, tl_7, tl_8, tl_9, tl_10, tl_11, tl_12, tl_13, tl_14, tl_15, tl_16, tn_3, tn_5, tn_13, tn_21, tn_29, tn_33, tn_37, tn_41, tn_45, tn_49, tn_53, tn_57, tn_61, tn_40, tn_p, tn_0, true_and, and_true, sk_0, sk_1, sk_2, sl_2, sk_3, sl_3, sk_4, sl_4, sk_5, sl_5, sk_6, sl_6, sk_7, sl_7, sk_8, sl_8, sk_9, sl_9, sk_10, sl_10, sk_11, sl_11, sk_12, sl_12, sk_13, sk_14, sl_14, sk_15, sk_40, sk_41, sl_41, sk_330, sl_330, sk_355, sk_356, sl_356, sk_357, sl_357, sk_358, sl_358, sk_359, sl_359, sk_360, sl_360, sk_361, sk_362, sl_362, sk_363, sk_376, sk_377, sl_377, sk_378, sk_379, sl_379, sk_380, sl_380, sk_381, sl_381, sk_382, sl_382, sk_383, sl_383, sk_384, sl_384, sk_385, sl_385, sk_386, sl_386, sk_387, sl_387, sk_388, sl_388, sk_389, sl_389, sk_390, sl_390, sk_391, sl_391, sk_392, sl_392, sk_393, sl_393, sk_394, sl_394, sr_0_0, sr_0_1, sr_0_2, sr_0_3, sr_0_4, sr_0_5, sr_0_6, sr_0_7, sr_0_8, sr_0_9, sr_1_0, sr_1_1, sr_1_2, sr_13_0, sr_15_0, sr_15_2, sr_40_0, sr_355_0, sr_355_1, sr_355_2, sr_355_3, sr_355_4, sr_355_5, sr_361_2, sr_361_5, sr_361_6, sr_363_0, sr_363_1, sr_376_0, sr_376_2, sr_378_0, sr_378_1, sr_378_2, sr_378_4, sr_378_8, sr_378_10, sr_378_11, sr_378_12, sr_378_14, sr_378_20, sr_378_21, sr_378_22, sr_378_23, sr_378_24, sr_378_25, sr_378_26, am_vs, h1, h2, c, ex, r23, am_lg28.k, H1]
      all_goals ((repeat' split) <;> first | rfl | trivial | (exfalso; omega))
  · refine ⟨by rw [o40, updI_s]; omega, by rw [o40, updI_n (by omega), updI_s], y1, by omega, fun i hi => ?_⟩
    have h5' := h5 (i + 1) (by omega)
    have e : acP x' i = acP x (i + 1) := by unfold acP; rw [y3 i (by omega)]
    rw [e, show 85 * (n - 1 - 1 - i) = 85 * (n - 1 - (i + 1)) by omega]
    refine ⟨lgR_fr h5'.1 (fun b hb hb2 => ?_), h5'.2⟩
    unfold acP at hb hb2
    exact fr b (by omega)
  · have h5' := h5 0 hn
    have e : acP x 0 = 42 + 12 * x' := by unfold acP; rw [show x + 23 - 0 = x + 23 by omega, y4]
    rw [e, show n - 1 - 0 = n - 1 by omega] at h5'
    exact lgR_bc (lgR_fr h5'.1 (fun b hb hb2 => setR_n (by omega)))
/-- a way between two ports -/
abbrev wayB (t : Nat → Int) (w p q : Nat) : Prop := (t (5 + w) = (p : Int) ∧ t (13 + w) = (q : Int)) ∨ (t (5 + w) = (q : Int) ∧ t (13 + w) = (p : Int))
/-- why a port comes to know a news on day y -/
def Src (t : Nat → Int) (y : Int) (p n : Nat) : Prop := (∃ w q : Nat, w < 8 ∧ (w : Int) < t 1 ∧ q < 6 ∧ wayB t w p q ∧ 0 ≤ kw t q n ∧ 3 * t (21 + w) ≤ y - kw t q n) ∨ (∃ s : Nat, s < 4 ∧ (s : Int) < t 2 ∧ t (37 + s) = y ∧ t (33 + s) = (p : Int) ∧ t (49 + s) = 0 ∧ bit (t (45 + s)) n)
/-- on the way through a day: what was known is, what is new has a reason -/
def mid (t : Nat → Int) (y : Int) (u : Nat → Int) : Prop := ∀ p n, p < 6 → n < 4 → (0 ≤ kw t p n → kw u p n = kw t p n) ∧ (kw t p n < 0 → kw u p n < 0 ∨ (kw u p n = y ∧ Src t y p n))
theorem mid_he {t u : Nat → Int} {y : Int} (h : mid t y u) (h3 : u 3 = y) (hy : 0 ≤ y) {w a b : Nat} (hw8 : w < 8) (hw : (w : Int) < t 1) (hab : wayB t w a b) (ha : a < 6) (hb : b < 6) (h1 : 1 ≤ t (21 + w)) : mid t y (heT a b (t (21 + w)) u 4).1 := by
  intro p n hp hn
  have hc := heT_cell (p := a) (f := b) (L := t (21 + w)) (t := u) (q := p) hn 4 (by omega)
  have g := h p n hp hn
  show (0 ≤ kw t p n → (heT a b (t (21 + w)) u 4).1 (61 + 4 * p + n) = kw t p n) ∧ (kw t p n < 0 → (heT a b (t (21 + w)) u 4).1 (61 + 4 * p + n) < 0 ∨ ((heT a b (t (21 + w)) u 4).1 (61 + 4 * p + n) = y ∧ Src t y p n))
  rw [hc]
  split
  · rename_i c
    obtain ⟨e, -, c1, c2, c3⟩ := c
    subst e
    rw [h3] at c3 ⊢
    have gb := h b n hb hn
    unfold kw at g gb
    have tb : 0 ≤ t (61 + 4 * b + n) := by
      by_cases hx : 0 ≤ t (61 + 4 * b + n)
      · exact hx
      · rcases gb.2 (by omega) with gb | gb
        · omega
        · omega
    have eb := gb.1 tb
    have tp : t (61 + 4 * p + n) < 0 := by
      by_cases hx : 0 ≤ t (61 + 4 * p + n)
      · have := g.1 hx; omega
      · omega
    refine ⟨fun hx => by unfold kw at hx; omega, fun _ => Or.inr ⟨rfl, Or.inl ⟨w, b, hw8, hw, hb, hab, tb, ?_⟩⟩⟩
    unfold kw
    omega
  · exact g
theorem mid_te {t u : Nat → Int} {y : Int} (h : mid t y u) (h3 : u 3 = y) {s p : Nat} (hs : s < 4) (hs2 : (s : Int) < t 2) (hd : t (37 + s) = y) (hp : t (33 + s) = (p : Int)) (hm : t (49 + s) = 0) (h45 : u (45 + s) = t (45 + s)) : mid t y (teT s p u 4).1 := by
  intro q n hq hn
  have hc := teT_cell (s := s) (p := p) (t := u) (q := q) hs hn 4 (by omega)
  have g := h q n hq hn
  show (0 ≤ kw t q n → (teT s p u 4).1 (61 + 4 * q + n) = kw t q n) ∧ (kw t q n < 0 → (teT s p u 4).1 (61 + 4 * q + n) < 0 ∨ ((teT s p u 4).1 (61 + 4 * q + n) = y ∧ Src t y q n))
  rw [hc]
  split
  · rename_i c
    obtain ⟨e, -, c1, c2⟩ := c
    subst e
    rw [h3]
    rw [h45] at c1
    unfold kw at g
    have tp : t (61 + 4 * q + n) < 0 := by
      by_cases hx : 0 ≤ t (61 + 4 * q + n)
      · have := g.1 hx; omega
      · omega
    exact ⟨fun hx => by unfold kw at hx; omega, fun _ => Or.inr ⟨rfl, Or.inr ⟨s, hs, hs2, hd, hp, hm, c1⟩⟩⟩
  · exact g
theorem keep_he {p f : Nat} {L : Int} {u : Nat → Int} {q n : Nat} (hn : n < 4) (h : 0 ≤ kw u q n) : kw (heT p f L u 4).1 q n = kw u q n := by
  show (heT p f L u 4).1 (61 + 4 * q + n) = _
  unfold kw at h
  rw [heT_cell hn 4 (by omega), if_neg]
  rintro ⟨e, -, c, -⟩
  subst e
  omega
theorem keep_te {s p : Nat} {u : Nat → Int} {q n : Nat} (hs : s < 4) (hn : n < 4) (h : 0 ≤ kw u q n) : kw (teT s p u 4).1 q n = kw u q n := by
  show (teT s p u 4).1 (61 + 4 * q + n) = _
  unfold kw at h
  rw [teT_cell hs hn 4 (by omega), if_neg]
  rintro ⟨e, -, -, c⟩
  subst e
  omega
theorem mid_wa {t : Nat → Int} (hb : bT t) (h1 : w1T t) (hd : t 3 < 150) : ∀ k : Nat, k ≤ 8 → (k : Int) ≤ t 1 → mid t (t 3 + 1) (waT (updI t 3 (t 3 + 1)) k).1
  | 0, _, _ => fun p n hp hn => by
    show (_ → updI t 3 (t 3 + 1) (61 + 4 * p + n) = _) ∧ (_ → updI t 3 (t 3 + 1) (61 + 4 * p + n) < 0 ∨ _)
    rw [updI_n (by omega)]
    exact ⟨fun _ => rfl, fun h => Or.inl h⟩
  | k + 1, hk, hk2 => by
    have ih := mid_wa hb h1 hd k (by omega) (by omega)
    have hw := hb.2.2.2.2.2.2.1 k (by omega)
    have a3 := hb.2.2.2.2.1
    have hl := h1 k (by omega)
    have e3 : (waT (updI t 3 (t 3 + 1)) k).1 3 = t 3 + 1 := by rw [waT_o _ (by omega), updI_s]
    rw [waT_s, updI_n (show 13 + k ≠ 3 by omega), updI_n (show 5 + k ≠ 3 by omega), updI_n (show 21 + k ≠ 3 by omega)]
    simp only
    have m1 := mid_he ih e3 (by omega) (w := k) (a := (t (5 + k)).toNat) (b := (t (13 + k)).toNat) (by omega) (by omega) (Or.inl ⟨by omega, by omega⟩) (by omega) (by omega) hl
    exact mid_he m1 (by rw [heT_o _ _ _ _ (by omega), e3]) (by omega) (w := k) (a := (t (13 + k)).toNat) (b := (t (5 + k)).toNat) (by omega) (by omega) (Or.inr ⟨by omega, by omega⟩) (by omega) (by omega) hl
theorem keep_wa {t : Nat → Int} {q n : Nat} (hn : n < 4) {j : Nat} (h : 0 ≤ kw (waT t j).1 q n) : ∀ k, j ≤ k → kw (waT t k).1 q n = kw (waT t j).1 q n
  | 0, hj => by rw [show j = 0 by omega]
  | k + 1, hj => by
    by_cases e : j = k + 1
    · rw [e]
    · have ih := keep_wa hn h k (by omega)
      rw [waT_s]
      simp only
      rw [keep_he hn (by rw [keep_he hn (by omega)]; omega), keep_he hn (by omega), ih]
theorem done_wa {t : Nat → Int} (hb : bT t) (h1 : w1T t) (hd : t 3 < 150) {w p q n : Nat} (hw8 : w < 8) (hw : (w : Int) < t 1) (hp : p < 6) (hq : q < 6) (hn : n < 4) (hpq : wayB t w p q) (hk : 0 ≤ kw t q n) (hl : 3 * t (21 + w) ≤ t 3 + 1 - kw t q n) : 0 ≤ kw (waT (updI t 3 (t 3 + 1)) (w + 1)).1 p n := by
  have a3 := hb.2.2.2.2.1
  have hw1 := h1 w hw
  have md := mid_wa hb h1 hd w (by omega) (by omega)
  have e3 : (waT (updI t 3 (t 3 + 1)) w).1 3 = t 3 + 1 := by rw [waT_o _ (by omega), updI_s]
  have kq := (md q n hq hn).1 hk
  rw [waT_s, updI_n (show 13 + w ≠ 3 by omega), updI_n (show 5 + w ≠ 3 by omega), updI_n (show 21 + w ≠ 3 by omega)]
  simp only
  generalize (waT (updI t 3 (t 3 + 1)) w).1 = u at *
  -- hearing makes it known
  have hear : ∀ v : Nat → Int, v 3 = t 3 + 1 → kw v q n = kw t q n → 0 ≤ kw (heT p q (t (21 + w)) v 4).1 p n := by
    intro v v3 vq
    show 0 ≤ (heT p q (t (21 + w)) v 4).1 (61 + 4 * p + n)
    rw [heT_cell hn 4 (by omega)]
    split
    · omega
    · rename_i c
      by_cases hx : v (61 + 4 * p + n) < 0
      · exfalso
        unfold kw at vq hk hl
        exact c ⟨rfl, hn, hx, by omega, by omega⟩
      · omega
  rcases hpq with ⟨x1, x2⟩ | ⟨x1, x2⟩
  · rw [x1, x2, show ((p : Int)).toNat = p from rfl, show ((q : Int)).toNat = q from rfl]
    have := hear u e3 kq
    rw [keep_he hn this]
    exact this
  · rw [x1, x2, show ((p : Int)).toNat = p from rfl, show ((q : Int)).toNat = q from rfl]
    exact hear _ (by rw [heT_o _ _ _ _ (by omega), e3]) (by rw [keep_he hn (by omega), kq])
