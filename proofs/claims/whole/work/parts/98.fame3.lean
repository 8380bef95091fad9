/-! ===== fame: judging ===== -/
theorem updI_c {g : Nat → Int} {i k : Nat} {x y : Int} (h : i ≠ k) : updI (updI g i x) k y = updI (updI g k y) i x := by
  funext q
  unfold updI
  (repeat' split) <;> first | rfl | (exfalso; omega)
abbrev joB (m : Nat → Int) (c v : Int) : Prop := m 0 < c ∨ (c = m 0 ∧ v < m 1)
def joM (m : Nat → Int) (c v : Int) : Nat → Int := if joB m c v then updI (updI m 0 c) 1 v else m
theorem joM_3 (m : Nat → Int) (c v : Int) : joM m c v 3 = m 3 := by
  unfold joM; split
  · rw [updI_n (by omega), updI_n (by omega)]
  · rfl
theorem c_judgeOne {d : Nat} {c v fl : Int} {m h : Nat → Int} {E : Nat → Nat → Int} (hc : 0 ≤ c ∧ c ≤ 64) (hv : -1000 ≤ v ∧ v ≤ 1000) (h0 : 0 ≤ m 0 ∧ m 0 ≤ 64) (h1 : -1000 ≤ m 1 ∧ m 1 ≤ 1000) : am_sem (d + 1) 71 [.ref 361, .int (iI c), .int (iI v)] am_S0 (dI (rnE E m h fl)) = some (none, am_S0, dI (rnE E (joM m c v) h fl)) := by
  have u0 : updI m 4 fl 0 = m 0 := updI_n (by omega)
  have u1 : updI m 4 fl 1 = m 1 := updI_n (by omega)
  have en : rnE E (updI (updI m 0 c) 1 v) h fl = setR (rnE E m h fl) 361 (updI (updI (updI m 4 fl) 0 c) 1 v) := by
    unfold rnE
    rw [setR_2, updI_c (show (1 : Nat) ≠ 4 by omega), updI_c (show (0 : Nat) ≠ 4 by omega)]
  refine mX5_judgeOne rfl rfl ?_
  unfold joM joB
  by_cases c1 : m 0 < c
  · rw [if_pos (Or.inl c1), en]
    simp (disch := first | omega | simp only [am_ci, am_cr, am_ca]) only [eX5_judgeOne_0, eX5_judgeOne_1, eX5_judgeOne_2, eX5_judgeOne_5, eX5_judgeOne_8, eX5_judgeOne_9, eX5_judgeOne_10, eX5_judgeOne_13, eX5_judgeOne_16, eX5_judgeOne_17, eX5_judgeOne_18, eX5_judgeOne_21, eX5_judgeOne_24, eX5_judgeOne_25, eX5_judgeOne_26, eX5_judgeOne_29, eX5_judgeOne_30, eX5_judgeOne_31, eX5_judgeOne_34, am_bi, Int.reduceEq, Int.reduceLT, Int.reduceLE, Int.reduceToNat, ite_self, Decidable.not_not, not_true_eq_false, not_false_eq_true, ↓reduceIte, am_ci, am_cr, am_ca, am_b0, am_b1, am_ts, am_tn, am_then_some, List.cons_append, List.nil_append, ne_eq, iI_lit, iI_add, iI_sub, iI_mul, iI_neg, iI_lt, iI_le, iI_eq, iI_in, iI_clz, dI_ap, dI_wr, setR_s, wE_R, setR_2, setR_n, setR_o, updI_s, updI_n, updI_2, tl_0, tl_1, tl_2, tl_3, tl_4, tl_5, tl_6, tl_7, tl_8, tl_9, tl_10, tl_11, tl_12, tl_13, tl_14, tl_15, tl_16, tn_3, tn_5, tn_13, tn_21, tn_29, tn_33, tn_37, tn_41, tn_45, tn_49, tn_53, tn_57, tn_61, tn_40, tn_p, tn_0, true_and, and_true, sk_0, sk_1, sk_2, sl_2, sk_3, sl_3, sk_4, sl_4, sk_5, sl_5, sk_6, sl_6, sk_7, sl_7, sk_8, sl_8, sk_9, sl_9, sk_10, sl_10, sk_11, sl_11, sk_12, sl_12, sk_13, sk_14, sl_14, sk_15, sk_40, sk_41, sl_41, sk_330, sl_330, sk_355, sk_356, sl_356, sk_357, sl_357, sk_358, sl_358, sk_359, sl_359, sk_360, sl_360, sk_361, sk_362, sl_362, sk_363, sk_376, sk_377, sl_377, sk_378, sk_379, sl_379, sk_380, sl_380, sk_381, sl_381, sk_382, sl_382, sk_383, sl_383, sk_384, sl_384, sk_385, sl_385, sk_386, sl_386, sk_387, sl_387, sk_388, sl_388, sk_389, sl_389, sk_390, sl_390, sk_391, sl_391, sk_392, sl_392, sk_393, sl_393, sk_394, sl_394, sr_0_0, sr_0_1, sr_0_2, sr_0_3, sr_0_4, sr_0_5, sr_0_6, sr_0_7, sr_0_8, sr_0_9, sr_1_0, sr_1_1, sr_1_2, sr_13_0, sr_15_0, sr_15_2, sr_40_0, sr_355_0, sr_355_1, sr_355_2, sr_355_3, sr_355_4, sr_355_5, sr_361_2, sr_361_5, sr_361_6, sr_363_0, sr_363_1, sr_376_0, sr_376_2, sr_378_0, sr_378_1, sr_378_2, sr_378_4, sr_378_8, sr_378_10, sr_378_11, sr_378_12, sr_378_14, sr_378_20, sr_378_21, sr_378_22, sr_378_23, sr_378_24, sr_378_25, sr_378_26, am_vs, rnE_1, u0, u1]
    repeat (first | rw [if_pos (by omega)] | rw [if_neg (by omega)])
    trivial
  · by_cases c2 : c = m 0 ∧ v < m 1
    · rw [if_pos (Or.inr c2), en]
      have c3 := c2.1
      have c4 := c2.2
      simp (disch := first | omega | simp only [am_ci, am_cr, am_ca]) only [eX5_judgeOne_0, eX5_judgeOne_1, eX5_judgeOne_2, eX5_judgeOne_5, eX5_judgeOne_8, eX5_judgeOne_9, eX5_judgeOne_10, eX5_judgeOne_13, eX5_judgeOne_16, eX5_judgeOne_17, eX5_judgeOne_18, eX5_judgeOne_21, eX5_judgeOne_24, eX5_judgeOne_25, eX5_judgeOne_26, eX5_judgeOne_29, eX5_judgeOne_30, eX5_judgeOne_31, eX5_judgeOne_34, am_bi, Int.reduceEq, Int.reduceLT, Int.reduceLE, Int.reduceToNat, ite_self, Decidable.not_not, not_true_eq_false, not_false_eq_true, ↓reduceIte, am_ci, am_cr, am_ca, am_b0, am_b1, am_ts, am_tn, am_then_some, List.cons_append, List.nil_append, ne_eq, iI_lit, iI_add, iI_sub, iI_mul, iI_neg, iI_lt, iI_le, iI_eq, iI_in, iI_clz, dI_ap, dI_wr, setR_s, wE_R, setR_2, setR_n, setR_o, updI_s, updI_n, updI_2, tl_0, tl_1, tl_2, tl_3, tl_4, tl_5, tl_6, tl_7, tl_8, tl_9, tl_10, tl_11, tl_12, tl_13, tl_14, tl_15, tl_16, tn_3, tn_5, tn_13, tn_21, tn_29, tn_33, tn_37, tn_41, tn_45, tn_49, tn_53, tn_57, tn_61, tn_40, tn_p, tn_0, true_and, and_true, sk_0, sk_1, sk_2, sl_2, sk_3, sl_3, sk_4, sl_4, sk_5, sl_5, sk_6, sl_6, sk_7, sl_7, sk_8, sl_8, sk_9, sl_9, sk_10, sl_10, sk_11, sl_11, sk_12, sl_12, sk_13, sk_14, sl_14, sk_15, sk_40, sk_41, sl_41, sk_330, sl_330, sk_355, sk_356, sl_356, sk_357, sl_357, sk_358, sl_358, sk_359, sl_359, sk_360, sl_360, sk_361, sk_362, sl_362, sk_363, sk_376, sk_377, sl_377, sk_378, sk_379, sl_379, sk_380, sl_380, sk_381, sl_381, sk_382, sl_382, sk_383, sl_383, sk_384, sl_384, sk_385, sl_385, sk_386, sl_386, sk_387, sl_387, sk_388, sl_388, sk_389, sl_389, sk_390, sl_390, sk_391, sl_391, sk_392, sl_392, sk_393, sl_393, sk_394, sl_394, sr_0_0, sr_0_1, sr_0_2, sr_0_3, sr_0_4, sr_0_5, sr_0_6, sr_0_7, sr_0_8, sr_0_9, sr_1_0, sr_1_1, sr_1_2, sr_13_0, sr_15_0, sr_15_2, sr_40_0, sr_355_0, sr_355_1, sr_355_2, sr_355_3, sr_355_4, sr_355_5, sr_361_2, sr_361_5, sr_361_6, sr_363_0, sr_363_1, sr_376_0, sr_376_2, sr_378_0, sr_378_1, sr_378_2, sr_378_4, sr_378_8, sr_378_10, sr_378_11, sr_378_12, sr_378_14, sr_378_20, sr_378_21, sr_378_22, sr_378_23, sr_378_24, sr_378_25, sr_378_26, am_vs, rnE_1, u0, u1]
      repeat (first | rw [if_pos (by omega)] | rw [if_neg (by omega)])
      trivial
    · rw [if_neg (by omega)]
      simp (disch := first | omega | simp only [am_ci, am_cr, am_ca]) only [eX5_judgeOne_0, eX5_judgeOne_1, eX5_judgeOne_2, eX5_judgeOne_5, eX5_judgeOne_8, eX5_judgeOne_9, eX5_judgeOne_10, eX5_judgeOne_13, eX5_judgeOne_16, eX5_judgeOne_17, eX5_judgeOne_18, eX5_judgeOne_21, eX5_judgeOne_24, eX5_judgeOne_25, eX5_judgeOne_26, eX5_judgeOne_29, eX5_judgeOne_30, eX5_judgeOne_31, eX5_judgeOne_34, am_bi, Int.reduceEq, Int.reduceLT, Int.reduceLE, Int.reduceToNat, ite_self, Decidable.not_not, not_true_eq_false, not_false_eq_true, ↓reduceIte, am_ci, am_cr, am_ca, am_b0, am_b1, am_ts, am_tn, am_then_some, List.cons_append, List.nil_append, ne_eq, iI_lit, iI_add, iI_sub, iI_mul, iI_neg, iI_lt, iI_le, iI_eq, iI_in, iI_clz, dI_ap, dI_wr, setR_s, wE_R, setR_2, setR_n, setR_o, updI_s, updI_n, updI_2, tl_0, tl_1, tl_2, tl_3, tl_4, tl_5, tl_6, tl_7, tl_8, tl_9, tl_10, tl_11, tl_12, tl_13, tl_14, tl_15, tl_16, tn_3, tn_5, tn_13, tn_21, tn_29, tn_33, tn_37, tn_41, tn_45, tn_49, tn_53, tn_57, tn_61, tn_40, tn_p, tn_0, true_and, and_true, sk_0, sk_1, sk_2, sl_2, sk_3, sl_3, sk_4, sl_4, sk_5, sl_5, sk_6, sl_6, sk_7, sl_7, sk_8, sl_8, sk_9, sl_9, sk_10, sl_10, sk_11, sl_11, sk_12, sl_12, sk_13, sk_14, sl_14, sk_15, sk_40, sk_41, sl_41, sk_330, sl_330, sk_355, sk_356, sl_356, sk_357, sl_357, sk_358, sl_358, sk_359, sl_359, sk_360, sl_360, sk_361, sk_362, sl_362, sk_363, sk_376, sk_377, sl_377, sk_378, sk_379, sl_379, sk_380, sl_380, sk_381, sl_381, sk_382, sl_382, sk_383, sl_383, sk_384, sl_384, sk_385, sl_385, sk_386, sl_386, sk_387, sl_387, sk_388, sl_388, sk_389, sl_389, sk_390, sl_390, sk_391, sl_391, sk_392, sl_392, sk_393, sl_393, sk_394, sl_394, sr_0_0, sr_0_1, sr_0_2, sr_0_3, sr_0_4, sr_0_5, sr_0_6, sr_0_7, sr_0_8, sr_0_9, sr_1_0, sr_1_1, sr_1_2, sr_13_0, sr_15_0, sr_15_2, sr_40_0, sr_355_0, sr_355_1, sr_355_2, sr_355_3, sr_355_4, sr_355_5, sr_361_2, sr_361_5, sr_361_6, sr_363_0, sr_363_1, sr_376_0, sr_376_2, sr_378_0, sr_378_1, sr_378_2, sr_378_4, sr_378_8, sr_378_10, sr_378_11, sr_378_12, sr_378_14, sr_378_20, sr_378_21, sr_378_22, sr_378_23, sr_378_24, sr_378_25, sr_378_26, am_vs, rnE_1, u0, u1]
      all_goals ((repeat' split) <;> first | rfl | trivial | (exfalso; omega))
/-- the best of what was judged -/
def bJ (h : Nat → Int) (l d0 : Int) (Pr : Nat → Nat → Prop) (M D : Int) : Prop := ((M = 0 ∧ D = 0) ∨ ∃ S p, Pr S p ∧ h (6 * S + p) ≤ l ∧ 0 < bcF 64 S ∧ M = (bcF 64 S : Int) ∧ D = h (6 * S + p) - d0) ∧ ∀ S p, Pr S p → h (6 * S + p) ≤ l → 0 < bcF 64 S → (bcF 64 S : Int) < M ∨ ((bcF 64 S : Int) = M ∧ D ≤ h (6 * S + p) - d0)
theorem bJ_b {h : Nat → Int} {l d0 : Int} {Pr : Nat → Nat → Prop} {M D : Int} (H : bJ h l d0 Pr M D) (hh : ∀ S p, Pr S p → 0 ≤ h (6 * S + p)) (hl : 0 ≤ l ∧ l ≤ 200) (h0 : 0 ≤ d0 ∧ d0 ≤ 150) : (0 ≤ M ∧ M ≤ 64) ∧ -1000 ≤ D ∧ D ≤ 1000 := by
  rcases H.1 with ⟨a, b⟩ | ⟨S, p, a, b, c, e, g⟩
  · omega
  · have := hh S p a
    have := bcF_le 64 S
    omega
theorem bJ_1 {h : Nat → Int} {l d0 : Int} {Pr Pr' : Nat → Nat → Prop} {m : Nat → Int} {S p : Nat} (H : bJ h l d0 Pr (m 0) (m 1)) (hP : ∀ S' p', Pr' S' p' ↔ Pr S' p' ∨ (S' = S ∧ p' = p)) (c : h (6 * S + p) ≤ l ∧ 0 < bcF 64 S) : bJ h l d0 Pr' (joM m (bcF 64 S) (h (6 * S + p) - d0) 0) (joM m (bcF 64 S) (h (6 * S + p) - d0) 1) := by
  unfold joM
  by_cases b : joB m (bcF 64 S) (h (6 * S + p) - d0)
  · rw [if_pos b, updI_n (show (0 : Nat) ≠ 1 by omega), updI_s, updI_s]
    refine ⟨Or.inr ⟨S, p, (hP S p).mpr (Or.inr ⟨rfl, rfl⟩), c.1, c.2, rfl, rfl⟩, fun S' p' x y z => ?_⟩
    rcases (hP S' p').mp x with x | ⟨x1, x2⟩
    · have := H.2 S' p' x y z
      unfold joB at b
      omega
    · rw [x1, x2]; right; exact ⟨rfl, Int.le_refl _⟩
  · rw [if_neg b]
    refine ⟨H.1.imp id (fun ⟨S', p', x, y⟩ => ⟨S', p', (hP S' p').mpr (Or.inl x), y⟩), fun S' p' x y z => ?_⟩
    rcases (hP S' p').mp x with x | ⟨x1, x2⟩
    · exact H.2 S' p' x y z
    · rw [x1, x2]
      unfold joB at b
      omega
theorem bJ_0 {h : Nat → Int} {l d0 : Int} {Pr Pr' : Nat → Nat → Prop} {M D : Int} {S p : Nat} (H : bJ h l d0 Pr M D) (hP : ∀ S' p', Pr' S' p' ↔ Pr S' p' ∨ (S' = S ∧ p' = p)) (c : ¬ (h (6 * S + p) ≤ l ∧ 0 < bcF 64 S)) : bJ h l d0 Pr' M D := by
  refine ⟨H.1.imp id (fun ⟨S', p', x, y⟩ => ⟨S', p', (hP S' p').mpr (Or.inl x), y⟩), fun S' p' x y z => ?_⟩
  rcases (hP S' p').mp x with x | ⟨x1, x2⟩
  · exact H.2 S' p' x y z
  · rw [x1] at y z; rw [x2] at y
    exact absurd ⟨y, z⟩ c
theorem bJ_h {h h' : Nat → Int} {l d0 : Int} {Pr Pr' : Nat → Nat → Prop} {M D : Int} (H : bJ h l d0 Pr M D) (hP : ∀ S p, Pr' S p ↔ Pr S p) (hh : ∀ S p, Pr S p → h' (6 * S + p) = h (6 * S + p)) : bJ h' l d0 Pr' M D := by
  refine ⟨H.1.imp id (fun ⟨S', p', x, y⟩ => ⟨S', p', (hP S' p').mpr x, by rw [hh S' p' x]; exact y⟩), fun S p x y z => ?_⟩
  have x' := (hP S p).mp x
  rw [hh S p x'] at y ⊢
  exact H.2 S p x' y z
theorem c_judge {d S N : Nat} {E : Nat → Nat → Int} {m h t : Nat → Int} {l fl : Int} (hF : fR E t) (hN : t 0 = (N : Int)) (hm : m 3 = l) (hl : 0 ≤ l ∧ l ≤ 200) (hS : S < 64) (hh : ∀ i, i < 384 → 0 ≤ h i ∧ h i ≤ 1000000) (hB : bJ h l (t 3) (fun S' p => S' < S ∧ p < N) (m 0) (m 1)) : ∃ m', (m' 3 = l ∧ bJ h l (t 3) (fun S' p => S' < S + 1 ∧ p < N) (m' 0) (m' 1)) ∧ am_sem (d + 2) 70 [.ref 361, .int (iI S)] am_S0 (dI (rnE E m h fl)) = some (none, am_S0, dI (rnE E m' h fl)) := by
  obtain ⟨⟨hR, hDd⟩, hw, hqT⟩ := hF
  have hb := hw.1.1
  have a0 := hb.2.1
  have a3 := hb.2.2.2.2.1
  have e0 : E 28 0 = (N : Int) := by rw [hR.1.1, hN]
  have e3 : E 28 3 = t 3 := hR.1.2.2.2.1
  have HB := j_bits (d := d) (n := S) (S := am_S0) (D := dI (rnE E m h fl)) hS
  have bl := bcF_le 64 S
  obtain ⟨m', ⟨i1, i2⟩, he⟩ := am_fwd (X := Nat → Int) (I := fun k y => y 3 = l ∧ bJ h l (t 3) (fun S' p => (S' < S ∧ p < N) ∨ (S' = S ∧ p < k)) (y 0) (y 1)) (ev := fun k y R => ∀ v4, am_ev (am_sem (d + 1)) 5 cX5_judge 7 [.ref 361, .int (iI S), .int (iI (bcF 64 S)), .int (iI k), v4] [] am_S0 (dI (rnE E y h fl)) R) (n := N) (by
    intro k y hk ⟨j1, j2⟩
    have tn : ((S : Int) * 6 + (k : Int)).toNat = 6 * S + k := by omega
    have hi := hh (6 * S + k) (by omega)
    obtain ⟨b0, b1⟩ := bJ_b j2 (fun S' p x => (hh (6 * S' + p) (by omega)).1) hl a3
    have u3 : updI y 4 fl 3 = l := by rw [updI_n (by omega), j1]
    have hP : ∀ S' p', ((S' < S ∧ p' < N) ∨ (S' = S ∧ p' < k + 1)) ↔ ((S' < S ∧ p' < N) ∨ (S' = S ∧ p' < k)) ∨ (S' = S ∧ p' = k) := fun S' p' => by omega
    by_cases c : h (6 * S + k) ≤ l ∧ 0 < bcF 64 S
    · refine ⟨joM y (bcF 64 S) (h (6 * S + k) - t 3), ⟨by rw [joM_3]; exact j1, bJ_1 j2 hP c⟩, fun R ih v4 => ?_⟩
      have HJ := c_judgeOne (d := d) (c := (bcF 64 S : Int)) (v := h (6 * S + k) - t 3) (fl := fl) (m := y) (h := h) (E := E) (by omega) (by omega) b0 b1
      have ih2 := ih (.int (iI (h (6 * S + k))))
      have c1 := c.1
      have c2 := c.2
      rw [eX5_judge_7]
      simp (disch := first | omega | simp only [am_ci, am_cr, am_ca]) only [eX5_judge_8, eX5_judge_9, eX5_judge_12, eX5_judge_15, eX5_judge_18, eX5_judge_19, eX5_judge_22, eX5_judge_23, eX5_judge_25, eX5_judge_26, eX5_judge_27, eX5_judge_28, eX5_judge_29, eX5_judge_31, eX5_judge_33, eX5_judge_34, eX5_judge_37, eX5_judge_40, eX5_judge_41, eX5_judge_44, eX5_judge_45, eX5_judge_46, eX5_judge_48, eX5_judge_49, eX5_judge_52, eX5_judge_55, eX5_judge_56, eX5_judge_59, eX5_judge_62, am_bi, Int.reduceEq, Int.reduceLT, Int.reduceLE, Int.reduceToNat, ite_self, Decidable.not_not, not_true_eq_false, not_false_eq_true, ↓reduceIte, am_ci, am_cr, am_ca, am_b0, am_b1, am_ts, am_tn, am_then_some, List.cons_append, List.nil_append, ne_eq, iI_lit, iI_add, iI_sub, iI_mul, iI_neg, iI_lt, iI_le, iI_eq, iI_in, iI_clz, dI_ap, dI_wr, setR_s, wE_R, setR_2, setR_n, setR_o, updI_s, updI_n, updI_2, tl_0, tl_1, tl_2, tl_3, tl_4, tl_5, tl_6, tl_7, tl_8, tl_9, tl_10, tl_11, tl_12, tl_13, tl_14, tl_15, tl_16, tn_3, tn_5, tn_13, tn_21, tn_29, tn_33, tn_37, tn_41, tn_45, tn_49, tn_53, tn_57, tn_61, tn_40, tn_p, tn_0, true_and, and_true, sk_0, sk_1, sk_2, sl_2, sk_3, sl_3, sk_4, sl_4, sk_5, sl_5, sk_6, sl_6, sk_7, sl_7, sk_8, sl_8, sk_9, sl_9, sk_10, sl_10, sk_11, sl_11, sk_12, sl_12, sk_13, sk_14, sl_14, sk_15, sk_40, sk_41, sl_41, sk_330, sl_330, sk_355, sk_356, sl_356, sk_357, sl_357, sk_358, sl_358, sk_359, sl_359, sk_360, sl_360, sk_361, sk_362, sl_362, sk_363, sk_376, sk_377, sl_377, sk_378, sk_379, sl_379, sk_380, sl_380, sk_381, sl_381, sk_382, sl_382, sk_383, sl_383, sk_384, sl_384, sk_385, sl_385, sk_386, sl_386, sk_387, sl_387, sk_388, sl_388, sk_389, sl_389, sk_390, sl_390, sk_391, sl_391, sk_392, sl_392, sk_393, sl_393, sk_394, sl_394, sr_0_0, sr_0_1, sr_0_2, sr_0_3, sr_0_4, sr_0_5, sr_0_6, sr_0_7, sr_0_8, sr_0_9, sr_1_0, sr_1_1, sr_1_2, sr_13_0, sr_15_0, sr_15_2, sr_40_0, sr_355_0, sr_355_1, sr_355_2, sr_355_3, sr_355_4, sr_355_5, sr_361_2, sr_361_5, sr_361_6, sr_363_0, sr_363_1, sr_376_0, sr_376_2, sr_378_0, sr_378_1, sr_378_2, sr_378_4, sr_378_8, sr_378_10, sr_378_11, sr_378_12, sr_378_14, sr_378_20, sr_378_21, sr_378_22, sr_378_23, sr_378_24, sr_378_25, sr_378_26, am_vs, rnE_o, rnE_1, rnE_2, e0, e3, u3, tn, am_lg28.k, HJ]
      repeat (first | rw [if_pos (by omega)] | rw [if_neg (by omega)])
      exact ih2
    · refine ⟨y, ⟨j1, bJ_0 j2 hP c⟩, fun R ih v4 => ?_⟩
      have ih2 := ih (.int (iI (h (6 * S + k))))
      rw [eX5_judge_7]
      simp (disch := first | omega | simp only [am_ci, am_cr, am_ca]) only [eX5_judge_8, eX5_judge_9, eX5_judge_12, eX5_judge_15, eX5_judge_18, eX5_judge_19, eX5_judge_22, eX5_judge_23, eX5_judge_25, eX5_judge_26, eX5_judge_27, eX5_judge_28, eX5_judge_29, eX5_judge_31, eX5_judge_33, eX5_judge_34, eX5_judge_37, eX5_judge_40, eX5_judge_41, eX5_judge_44, eX5_judge_45, eX5_judge_46, eX5_judge_48, eX5_judge_49, eX5_judge_52, eX5_judge_55, eX5_judge_56, eX5_judge_59, eX5_judge_62, am_bi, Int.reduceEq, Int.reduceLT, Int.reduceLE, Int.reduceToNat, ite_self, Decidable.not_not, not_true_eq_false, not_false_eq_true, ↓reduceIte, am_ci, am_cr, am_ca, am_b0, am_b1, am_ts, am_tn, am_then_some, List.cons_append, List.nil_append, ne_eq, iI_lit, iI_add, iI_sub, iI_mul, iI_neg, iI_lt, iI_le, iI_eq, iI_in, iI_clz, dI_ap, dI_wr, setR_s, wE_R, setR_2, setR_n, setR_o, updI_s, updI_n, updI_2, tl_0, tl_1, tl_2, tl_3, tl_4, tl_5, tl_6, tl_7, tl_8, tl_9, tl_10, tl_11, tl_12, tl_13, tl_14, tl_15, tl_16, tn_3, tn_5, tn_13, tn_21, tn_29, tn_33, tn_37, tn_41, tn_45, tn_49, tn_53, tn_57, tn_61, tn_40, tn_p, tn_0, true_and, and_true, sk_0, sk_1, sk_2, sl_2, sk_3, sl_3, sk_4, sl_4, sk_5, sl_5, sk_6, sl_6, sk_7, sl_7, sk_8, sl_8, sk_9, sl_9, sk_10, sl_10, sk_11, sl_11, sk_12, sl_12, sk_13, sk_14, sl_14, sk_15, sk_40, sk_41, sl_41, sk_330, sl_330, sk_355, sk_356, sl_356, sk_357, sl_357, sk_358, sl_358, sk_359, sl_359, sk_360, sl_360, sk_361, sk_362, sl_362, sk_363, sk_376, sk_377, sl_377, sk_378, sk_379, sl_379, sk_380, sl_380, sk_381, sl_381, sk_382, sl_382, sk_383, sl_383, sk_384, sl_384, sk_385, sl_385, sk_386, sl_386, sk_387, sl_387, sk_388, sl_388, sk_389, sl_389, sk_390, sl_390, sk_391, sl_391, sk_392, sl_392, sk_393, sl_393, sk_394, sl_394, sr_0_0, sr_0_1, sr_0_2, sr_0_3, sr_0_4, sr_0_5, sr_0_6, sr_0_7, sr_0_8, sr_0_9, sr_1_0, sr_1_1, sr_1_2, sr_13_0, sr_15_0, sr_15_2, sr_40_0, sr_355_0, sr_355_1, sr_355_2, sr_355_3, sr_355_4, sr_355_5, sr_361_2, sr_361_5, sr_361_6, sr_363_0, sr_363_1, sr_376_0, sr_376_2, sr_378_0, sr_378_1, sr_378_2, sr_378_4, sr_378_8, sr_378_10, sr_378_11, sr_378_12, sr_378_14, sr_378_20, sr_378_21, sr_378_22, sr_378_23, sr_378_24, sr_378_25, sr_378_26, am_vs, rnE_o, rnE_1, rnE_2, e0, e3, u3, tn, am_lg28.k]
      rw [if_neg (by omega)]
      by_cases c1 : h (6 * S + k) ≤ l
      · have c2 : ¬ 0 < bcF 64 S := fun x => c ⟨c1, x⟩
        repeat (first | rw [if_pos (by omega)] | rw [if_neg (by omega)])
        exact ih2
      · repeat (first | rw [if_pos (by omega)] | rw [if_neg (by omega)])
        exact ih2) (k := 0) (x := m) (by omega) ⟨hm, bJ_h hB (fun S p => by omega) (fun _ _ _ => rfl)⟩
  refine ⟨m', ⟨i1, bJ_h i2 (fun S' p => by omega) (fun _ _ _ => rfl)⟩, ?_⟩
  have h2 := he (none, am_S0, dI (rnE E m' h fl)) (fun v4 => by
    rw [eX5_judge_7]
    simp (disch := first | omega | simp only [am_ci, am_cr, am_ca]) only [eX5_judge_8, eX5_judge_9, eX5_judge_12, eX5_judge_15, eX5_judge_18, eX5_judge_19, eX5_judge_22, eX5_judge_23, eX5_judge_25, eX5_judge_26, eX5_judge_27, eX5_judge_28, eX5_judge_29, eX5_judge_31, eX5_judge_33, eX5_judge_34, eX5_judge_37, eX5_judge_40, eX5_judge_41, eX5_judge_44, eX5_judge_45, eX5_judge_46, eX5_judge_48, eX5_judge_49, eX5_judge_52, eX5_judge_55, eX5_judge_56, eX5_judge_59, eX5_judge_62, eX5_judge_65, am_bi, Int.reduceEq, Int.reduceLT, Int.reduceLE, Int.reduceToNat, ite_self, Decidable.not_not, not_true_eq_false, not_false_eq_true, ↓reduceIte, am_ci, am_cr, am_ca, am_b0, am_b1, am_ts, am_tn, am_then_some, List.cons_append, List.nil_append, ne_eq, iI_lit, iI_add, iI_sub, iI_mul, iI_neg, iI_lt, iI_le, iI_eq, iI_in, iI_clz, dI_ap, dI_wr, setR_s, wE_R, setR_2, setR_n, setR_o, updI_s, updI_n, updI_2, tl_0, tl_1, tl_2, tl_3, tl_4, tl_5, tl_6, tl_7, tl_8, tl_9, tl_10, tl_11, tl_12, tl_13, tl_14, tl_15, tl_16, tn_3, tn_5, tn_13, tn_21, tn_29, tn_33, tn_37, tn_41, tn_45, tn_49, tn_53, tn_57, tn_61, tn_40, tn_p, tn_0, true_and, and_true, sk_0, sk_1, sk_2, sl_2, sk_3, sl_3, sk_4, sl_4, sk_5, sl_5, sk_6, sl_6, sk_7, sl_7, sk_8, sl_8, sk_9, sl_9, sk_10, sl_10, sk_11, sl_11, sk_12, sl_12, sk_13, sk_14, sl_14, sk_15, sk_40, sk_41, sl_41, sk_330, sl_330, sk_355, sk_356, sl_356, sk_357, sl_357, sk_358, sl_358, sk_359, sl_359, sk_360, sl_360, sk_361, sk_362, sl_362, sk_363, sk_376, sk_377, sl_377, sk_378, sk_379, sl_379, sk_380, sl_380, sk_381, sl_381, sk_382, sl_382, sk_383, sl_383, sk_384, sl_384, sk_385, sl_385, sk_386, sl_386, sk_387, sl_387, sk_388, sl_388, sk_389, sl_389, sk_390, sl_390, sk_391, sl_391, sk_392, sl_392, sk_393, sl_393, sk_394, sl_394, sr_0_0, sr_0_1, sr_0_2, sr_0_3, sr_0_4, sr_0_5, sr_0_6, sr_0_7, sr_0_8, sr_0_9, sr_1_0, sr_1_1, sr_1_2, sr_13_0, sr_15_0, sr_15_2, sr_40_0, sr_355_0, sr_355_1, sr_355_2, sr_355_3, sr_355_4, sr_355_5, sr_361_2, sr_361_5, sr_361_6, sr_363_0, sr_363_1, sr_376_0, sr_376_2, sr_378_0, sr_378_1, sr_378_2, sr_378_4, sr_378_8, sr_378_10, sr_378_11, sr_378_12, sr_378_14, sr_378_20, sr_378_21, sr_378_22, sr_378_23, sr_378_24, sr_378_25, sr_378_26, am_vs, rnE_o, e0, am_lg28.k]
    repeat (first | rw [if_pos (by omega)] | rw [if_neg (by omega)])
    trivial) (.retAddr 0)
  refine mX5_judge rfl rfl ?_
  simp (disch := first | omega | simp only [am_ci, am_cr, am_ca]) only [eX5_judge_0, eX5_judge_1, eX5_judge_4, eX5_judge_5, eX5_judge_6, am_bi, Int.reduceEq, Int.reduceLT, Int.reduceLE, Int.reduceToNat, ite_self, Decidable.not_not, not_true_eq_false, not_false_eq_true, ↓reduceIte, am_ci, am_cr, am_ca, am_b0, am_b1, am_ts, am_tn, am_then_some, List.cons_append, List.nil_append, ne_eq, iI_lit, iI_add, iI_sub, iI_mul, iI_neg, iI_lt, iI_le, iI_eq, iI_in, iI_clz, dI_ap, dI_wr, setR_s, wE_R, setR_2, setR_n, setR_o, updI_s, updI_n, updI_2, tl_0, tl_1, tl_2, tl_3, tl_4, tl_5, tl_6, tl_7, tl_8, tl_9, tl_10, tl_11, tl_12, tl_13, tl_14, tl_15, tl_16, tn_3, tn_5, tn_13, tn_21, tn_29, tn_33, tn_37, tn_41, tn_45, tn_49, tn_53, tn_57, tn_61, tn_40, tn_p, tn_0, true_and, and_true, sk_0, sk_1, sk_2, sl_2, sk_3, sl_3, sk_4, sl_4, sk_5, sl_5, sk_6, sl_6, sk_7, sl_7, sk_8, sl_8, sk_9, sl_9, sk_10, sl_10, sk_11, sl_11, sk_12, sl_12, sk_13, sk_14, sl_14, sk_15, sk_40, sk_41, sl_41, sk_330, sl_330, sk_355, sk_356, sl_356, sk_357, sl_357, sk_358, sl_358, sk_359, sl_359, sk_360, sl_360, sk_361, sk_362, sl_362, sk_363, sk_376, sk_377, sl_377, sk_378, sk_379, sl_379, sk_380, sl_380, sk_381, sl_381, sk_382, sl_382, sk_383, sl_383, sk_384, sl_384, sk_385, sl_385, sk_386, sl_386, sk_387, sl_387, sk_388, sl_388, sk_389, sl_389, sk_390, sl_390, sk_391, sl_391, sk_392, sl_392, sk_393, sl_393, sk_394, sl_394, sr_0_0, sr_0_1, sr_0_2, sr_0_3, sr_0_4, sr_0_5, sr_0_6, sr_0_7, sr_0_8, sr_0_9, sr_1_0, sr_1_1, sr_1_2, sr_13_0, sr_15_0, sr_15_2, sr_40_0, sr_355_0, sr_355_1, sr_355_2, sr_355_3, sr_355_4, sr_355_5, sr_361_2, sr_361_5, sr_361_6, sr_363_0, sr_363_1, sr_376_0, sr_376_2, sr_378_0, sr_378_1, sr_378_2, sr_378_4, sr_378_8, sr_378_10, sr_378_11, sr_378_12, sr_378_14, sr_378_20, sr_378_21, sr_378_22, sr_378_23, sr_378_24, sr_378_25, sr_378_26, am_vs, HB]
  exact h2
