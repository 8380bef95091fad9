/-! ===== fame: a set is settled ===== -/
theorem rnE_o (E : Nat → Nat → Int) (m h : Nat → Int) (fl : Int) {b : Nat} (h1 : b ≠ 361) (h2 : b ≠ 362) : rnE E m h fl b = E b := by unfold rnE; rw [setR_n h1, setR_n h2]
theorem rnE_1 (E : Nat → Nat → Int) (m h : Nat → Int) (fl : Int) : rnE E m h fl 361 = updI m 4 fl := by unfold rnE; rw [setR_s]
theorem rnE_2 (E : Nat → Nat → Int) (m h : Nat → Int) (fl : Int) : rnE E m h fl 362 = h := by unfold rnE; rw [setR_n (by omega), setR_s]
theorem rnE_f (E : Nat → Nat → Int) (m h : Nat → Int) (fl z : Int) : setR (rnE E m h fl) 361 (updI m 4 z) = rnE E m h z := by unfold rnE; rw [setR_2]
theorem c_settle {d S s N W : Nat} {E : Nat → Nat → Int} {m h t f : Nat → Int} {l fl : Int} {Dm : Nat → Nat → Int → Prop} (hF : fR E t) (hs : s < 4) (hs2 : (s : Int) < t 2) (hN : t 0 = (N : Int)) (hW : t 1 = (W : Int)) (hf : E 356 = f) (hfb : ∀ p, p < N → 0 ≤ f p ∧ f p ≤ 1000000) (hm : m 3 = l) (hl : 0 ≤ l ∧ l ≤ 200) (hS : S < 2 ^ N) (hV : Vl Dm N l h) (hD : ∀ e b c v, QW t s W e b c → Dm S e v → v + c ≤ l → Dm (sB f S b (v + c)) b (v + c)) : ∃ h' fl', (Vl Dm N l h' ∧ (∀ i, h' i ≤ h i) ∧ (∀ i, i < 6 * S → h' i = h i) ∧ ∀ e, e < 6 → ∀ b c, QW t s W e b c → edg f l h' S e b c) ∧ am_sem (d + 2) 69 [.ref 361, .int (iI S), .int (iI (t (29 + s)))] am_S0 (dI (rnE E m h fl)) = some (none, am_S0, dI (rnE E m h' fl')) := by
  have hF0 := hF
  obtain ⟨⟨hR, hDd⟩, hw, hqT⟩ := hF
  have hb := hw.1.1
  have a0 := hb.2.1
  have a1 := hb.2.2.1
  have wy := wyN_q hw hqT
  have h1 : w1T t := hqT.1.2.2.1
  have hne := hqT.1.2.2.2.1
  obtain ⟨sk, -⟩ := hqT.2.2.1 s hs hs2
  have bk := (hb.2.2.2.2.2.2.2.1 s hs).1
  have e1 : E 28 1 = (W : Int) := by rw [hR.1.2.1, hW]
  have p6 : (2 : Nat) ^ N ≤ 64 := Nat.pow_le_pow_right (show 0 < 2 by omega) (show N ≤ 6 by omega)
  -- one round
  have rnd : ∀ (r : Nat) (hh : Nat → Int), (Vl Dm N l hh ∧ (∀ i, hh i ≤ h i) ∧ ∀ i, i < 6 * S → hh i = h i) → Bx f l S (r + 1) True (QW t s W) hh → ∃ y : (Nat → Int) × Int, ((Vl Dm N l y.1 ∧ (∀ i, y.1 i ≤ h i) ∧ ∀ i, i < 6 * S → y.1 i = h i) ∧ Bx f l S (r + 1) True (QW t s W) y.1 ∧ Bx f l S (r + 2) (y.2 = 1) (QW t s W) y.1 ∧ (y.2 = 0 ∨ y.2 = 1)) ∧ ∀ R, (∀ v5 v6 v7, am_ev (am_sem (d + 1)) 5 cX5_settle 28 [.ref 361, .int (iI S), .int (iI (t (29 + s))), .int (iI r), .int (iI W), v5, v6, v7] [] am_S0 (dI (rnE E m y.1 y.2)) R) → ∀ v5 v6 v7, am_ev (am_sem (d + 1)) 5 cX5_settle 28 [.ref 361, .int (iI S), .int (iI (t (29 + s))), .int (iI r), .int (iI (0 : Nat)), v5, v6, v7] [] am_S0 (dI (rnE E m hh 0)) R := by
    intro r hh J A
    refine am_fwd (X := (Nat → Int) × Int) (I := fun k y => (Vl Dm N l y.1 ∧ (∀ i, y.1 i ≤ h i) ∧ ∀ i, i < 6 * S → y.1 i = h i) ∧ Bx f l S (r + 1) True (QW t s W) y.1 ∧ Bx f l S (r + 2) (y.2 = 1) (QW t s k) y.1 ∧ (y.2 = 0 ∨ y.2 = 1)) (ev := fun k y R => ∀ v5 v6 v7, am_ev (am_sem (d + 1)) 5 cX5_settle 28 [.ref 361, .int (iI S), .int (iI (t (29 + s))), .int (iI r), .int (iI k), v5, v6, v7] [] am_S0 (dI (rnE E m y.1 y.2)) R) (n := W) ?_ (k := 0) (x := (hh, 0)) (by omega) ?_
    · rintro k ⟨g, z⟩ hk ⟨⟨j1, j2, j3⟩, j4, j5, j6⟩
      dsimp only at j1 j2 j3 j4 j5 j6
      have k8 : k < 8 := by omega
      have w := wy k k8 (by omega)
      have nn := hne k k8 (by omega)
      have t1 := h1 k (by omega)
      have bl := (hb.2.2.2.2.2.2.1 k k8).2.2
      have tk := tkT_b (t := t) (s := s) (w := k) bl
      have tk1 : 1 ≤ tkT t s k := by unfold tkT; (repeat' split) <;> omega
      obtain ⟨r1, r2, r3⟩ := hR.2.1 k k8 (by omega)
      obtain ⟨a, ha⟩ := Int.eq_ofNat_of_zero_le w.1.1
      obtain ⟨b, hbb⟩ := Int.eq_ofNat_of_zero_le w.2.1
      have ta : (t (5 + k)).toNat = a := by omega
      have tb : (t (13 + k)).toNat = b := by omega
      have qa : QW t s W a b (tkT t s k) := ⟨k, hk, Or.inl ⟨ta, tb⟩, rfl⟩
      have qb : QW t s W b a (tkT t s k) := ⟨k, hk, Or.inr ⟨tb, ta⟩, rfl⟩
      have HD : ∀ F : Nat → Nat → Int, F 31 k = t (21 + k) → am_sem (d + 1) 46 [.ref 28, .int (iI k), .int (iI (t (29 + s)))] am_S0 (dI F) = some (some (.int (iI (tkT t s k))), am_S0, dI F) := fun F hF => by
        have := c_daysOn (d := d) (a := 28) (w := k) (m := t (29 + s)) (E := F) am_lg28 k8 (by omega) (by rw [show 28 + 3 = 31 from rfl, hF]; exact bl)
        rw [show 28 + 3 = 31 from rfl, hF, dy_tk (by omega)] at this
        exact this
      generalize hc : tkT t s k = c at *
      have gb := fun (i : Nat) (hi : i < 384) => Vl_b (by omega) j1 hi
      have ga := gb (6 * S + a) (by omega)
      have C1 := c_come (d := d) (S := S) (p := b) (v := g (6 * S + a) + c) (fl := z) (l := l) (f := f) (m := m) (h := g) (E := E) (by omega) (by omega) (by omega) hf (hfb b (by omega)) hm hl gb
      have V1 : Vl Dm N l (coH f l S b (g (6 * S + a) + c) g) := Vl_co j1 hS (by omega) (by omega) (by omega) (fun x => by
        rcases j1 S a (by omega) (by omega) with y | ⟨-, y, -⟩
        · omega
        · exact hD a b c _ qa y x)
      have A1 := Bx_co (P' := True) (Q' := QW t s W) (b := b) (e := a) (c := c) (by omega) (by omega) (by omega) (by omega) (fun x => x) (fun _ => trivial) (fun _ _ _ x => Or.inl x) (fun x => by have := Bx_r (by omega) j4 qa x; omega) j4
      have B1 := Bx_co (P' := (if coB f l S b (g (6 * S + a) + c) g then 1 else z) = 1) (Q' := fun e' b' c' => QW t s k e' b' c' ∨ (e' = a ∧ b' = b ∧ c' = c)) (b := b) (e := a) (c := c) (by omega) (by omega) (by omega) (by omega) (fun x => by split; rfl; exact x) (fun x => by rw [if_pos x]) (fun _ _ _ x => x) (fun x => by have := Bx_r (by omega) j4 qa x; omega) j5
      have L1 := coH_le (f := f) (l := l) S b (g (6 * S + a) + c) g
      have O1 := fun i hi => coH_lo (f := f) (l := l) S b (g (6 * S + a) + c) g (i := i) hi
      have z1 : (if coB f l S b (g (6 * S + a) + c) g then 1 else z) = 0 ∨ (if coB f l S b (g (6 * S + a) + c) g then 1 else z) = 1 := by split; exact Or.inr rfl; exact j6
      generalize (if coB f l S b (g (6 * S + a) + c) g then 1 else z) = z' at *
      generalize hg1 : coH f l S b (g (6 * S + a) + c) g = g1 at *
      have gb1 := fun (i : Nat) (hi : i < 384) => Vl_b (by omega) V1 hi
      have gab := gb1 (6 * S + b) (by omega)
      have C2 := c_come (d := d) (S := S) (p := a) (v := g1 (6 * S + b) + c) (fl := z') (l := l) (f := f) (m := m) (h := g1) (E := E) (by omega) (by omega) (by omega) hf (hfb a (by omega)) hm hl gb1
      have V2 : Vl Dm N l (coH f l S a (g1 (6 * S + b) + c) g1) := Vl_co V1 hS (by omega) (by omega) (by omega) (fun x => by
        rcases V1 S b (by omega) (by omega) with y | ⟨-, y, -⟩
        · omega
        · exact hD b a c _ qb y x)
      have A2 := Bx_co (P' := True) (Q' := QW t s W) (b := a) (e := b) (c := c) (by omega) (by omega) (by omega) (by omega) (fun x => x) (fun _ => trivial) (fun _ _ _ x => Or.inl x) (fun x => by have := Bx_r (by omega) A1 qb x; omega) A1
      have B2 := Bx_co (P' := (if coB f l S a (g1 (6 * S + b) + c) g1 then 1 else z') = 1) (Q' := QW t s (k + 1)) (b := a) (e := b) (c := c) (by omega) (by omega) (by omega) (by omega) (fun x => by split; rfl; exact x) (fun x => by rw [if_pos x]) (fun e' b' c' x => by
        obtain ⟨w', x1, x2, x3⟩ := x
        by_cases ek : w' = k
        · subst ek
          rw [hc] at x3
          rcases x2 with ⟨y1, y2⟩ | ⟨y1, y2⟩
          · exact Or.inl (Or.inr ⟨by omega, by omega, x3⟩)
          · exact Or.inr ⟨by omega, by omega, x3⟩
        · exact Or.inl (Or.inl ⟨w', by omega, x2, x3⟩)) (fun x => by have := Bx_r (by omega) A1 qb x; omega) B1
      have L2 := coH_le (f := f) (l := l) S a (g1 (6 * S + b) + c) g1
      have O2 := fun i hi => coH_lo (f := f) (l := l) S a (g1 (6 * S + b) + c) g1 (i := i) hi
      have z2 : (if coB f l S a (g1 (6 * S + b) + c) g1 then 1 else z') = 0 ∨ (if coB f l S a (g1 (6 * S + b) + c) g1 then 1 else z') = 1 := by split; exact Or.inr rfl; exact z1
      refine ⟨(coH f l S a (g1 (6 * S + b) + c) g1, if coB f l S a (g1 (6 * S + b) + c) g1 then 1 else z'), ⟨⟨V2, fun i => by have := L2 i; have := L1 i; have := j2 i; show coH f l S a (g1 (6 * S + b) + c) g1 i ≤ h i; omega, fun i hi => by show coH f l S a (g1 (6 * S + b) + c) g1 i = h i; rw [O2 i hi, O1 i hi, j3 i hi]⟩, A2, B2, z2⟩, fun R ih v5 v6 v7 => ?_⟩
      have ih2 := ih (.int (iI c)) (.int (iI a)) (.int (iI b))
      have r1' : E 29 k = (a : Int) := by rw [← ha]; exact r1
      have r2' : E 30 k = (b : Int) := by rw [← hbb]; exact r2
      have HDs := HD (rnE E m g z) (by rw [rnE_o _ _ _ _ (by omega) (by omega)]; exact r3)
      have tn1 : ((S : Int) * 6 + (a : Int)).toNat = 6 * S + a := by omega
      have tn2 : ((S : Int) * 6 + (b : Int)).toNat = 6 * S + b := by omega
      dsimp only
      rw [eX5_settle_28]
      simp (disch := first | omega | simp only [am_ci, am_cr, am_ca]) only [eX5_settle_30, eX5_settle_31, eX5_settle_34, eX5_settle_37, eX5_settle_40, eX5_settle_41, eX5_settle_44, eX5_settle_46, eX5_settle_47, eX5_settle_50, eX5_settle_52, eX5_settle_53, eX5_settle_56, eX5_settle_59, eX5_settle_61, eX5_settle_62, eX5_settle_64, eX5_settle_65, eX5_settle_68, eX5_settle_71, eX5_settle_73, eX5_settle_74, eX5_settle_76, eX5_settle_77, eX5_settle_78, eX5_settle_80, eX5_settle_81, eX5_settle_84, eX5_settle_85, eX5_settle_87, eX5_settle_88, eX5_settle_90, eX5_settle_91, eX5_settle_92, eX5_settle_94, eX5_settle_95, eX5_settle_98, eX5_settle_99, eX5_settle_100, eX5_settle_102, eX5_settle_103, eX5_settle_106, eX5_settle_107, eX5_settle_109, eX5_settle_110, eX5_settle_112, eX5_settle_113, eX5_settle_114, eX5_settle_116, eX5_settle_117, eX5_settle_120, eX5_settle_123, am_bi, Int.reduceEq, Int.reduceLT, Int.reduceLE, Int.reduceToNat, ite_self, Decidable.not_not, not_true_eq_false, not_false_eq_true, ↓reduceIte, am_ci, am_cr, am_ca, am_b0, am_b1, am_ts, am_tn, am_then_some, List.cons_append, List.nil_append, ne_eq, iI_lit, iI_add, iI_sub, iI_mul, iI_neg, iI_lt, iI_le, iI_eq, iI_in, iI_clz, dI_ap, dI_wr, setR_s, wE_R, setR_2, setR_n, setR_o, updI_s, updI_n, updI_2, tl_0, tl_1, tl_2, tl_3, tl_4, tl_5, tl_6, tl_7, tl_8, tl_9, tl_10, tl_11, tl_12, tl_13, tl_14, tl_15, tl_16, tn_3, tn_5, tn_13, tn_21, tn_29, tn_33, tn_37, tn_41, tn_45, tn_49, tn_53, tn_57, tn_61, tn_40, tn_p, tn_0, true_and, and_true, sk_0, sk_1, sk_2, sl_2, sk_3, sl_3, sk_4, sl_4, sk_5, sl_5, sk_6, sl_6, sk_7, sl_7, sk_8, sl_8, sk_9, sl_9, sk_10, sl_10, sk_11, sl_11, sk_12, sl_12, sk_13, sk_14, sl_14, sk_15, sk_40, sk_41, sl_41, sk_330, sl_330, sk_355, sk_356, sl_356, sk_357, sl_357, sk_358, sl_358, sk_359, sl_359, sk_360, sl_360, sk_361, sk_362, sl_362, sk_363, sk_376, sk_377, sl_377, sk_378, sk_379, sl_379, sk_380, sl_380, sk_381, sl_381, sk_382, sl_382, sk_383, sl_383, sk_384, sl_384, sk_385, sl_385, sk_386, sl_386, sk_387, sl_387, sk_388, sl_388, sk_389, sl_389, sk_390, sl_390, sk_391, sl_391, sk_392, sl_392, sk_393, sl_393, sk_394, sl_394, sr_0_0, sr_0_1, sr_0_2, sr_0_3, sr_0_4, sr_0_5, sr_0_6, sr_0_7, sr_0_8, sr_0_9, sr_1_0, sr_1_1, sr_1_2, sr_13_0, sr_15_0, sr_15_2, sr_40_0, sr_355_0, sr_355_1, sr_355_2, sr_355_3, sr_355_4, sr_355_5, sr_361_2, sr_361_5, sr_361_6, sr_363_0, sr_363_1, sr_376_0, sr_376_2, sr_378_0, sr_378_1, sr_378_2, sr_378_4, sr_378_8, sr_378_10, sr_378_11, sr_378_12, sr_378_14, sr_378_20, sr_378_21, sr_378_22, sr_378_23, sr_378_24, sr_378_25, sr_378_26, am_vs, rnE_o, rnE_1, rnE_2, e1, r1', r2', HDs, am_lg28.k, am_lg28.k1, am_lg28.k2, am_lg28.r1, am_lg28.r2, am_lg28.l1, am_lg28.l2, tn1, tn2, C1, C2]
      repeat (first | rw [if_pos (by omega)] | rw [if_neg (by omega)])
      exact ih2
    · refine ⟨J, A, fun e he => Or.inl (fun b c x => ?_), Or.inl rfl⟩
      obtain ⟨w, hw, -⟩ := x
      omega
  -- the rounds
  have key : ∀ (j r : Nat) (hh : Nat → Int) (z : Int), r + j = 6 → (Vl Dm N l hh ∧ (∀ i, hh i ≤ h i) ∧ ∀ i, i < 6 * S → hh i = h i) → (z = 0 ∨ z = 1) → Bx f l S (r + 1) (z = 1) (QW t s W) hh → ∃ h' fl', (Vl Dm N l h' ∧ (∀ i, h' i ≤ h i) ∧ (∀ i, i < 6 * S → h' i = h i) ∧ ∀ e, e < 6 → ∀ b c, QW t s W e b c → edg f l h' S e b c) ∧ ∀ v4 v5 v6 v7, am_ev (am_sem (d + 1)) 5 cX5_settle 7 [.ref 361, .int (iI S), .int (iI (t (29 + s))), .int (iI r), v4, v5, v6, v7] [] am_S0 (dI (rnE E m hh z)) (none, am_S0, dI (rnE E m h' fl')) := by
    intro j
    induction j with
    | zero =>
      intro r hh z hr J hz A
      refine ⟨hh, z, ⟨J.1, J.2.1, J.2.2, fun e he b c q => ?_⟩, fun v4 v5 v6 v7 => ?_⟩
      · rcases A e he with x | ⟨-, x⟩
        · exact x b c q
        · have := rk_6 hh S e
          omega
      · have : r = 6 := by omega
        subst this
        rw [eX5_settle_7]
        simp (disch := first | omega | simp only [am_ci, am_cr, am_ca]) only [eX5_settle_8, eX5_settle_10, eX5_settle_13, eX5_settle_14, eX5_settle_17, eX5_settle_20, eX5_settle_21, eX5_settle_22, eX5_settle_25, eX5_settle_26, eX5_settle_30, eX5_settle_31, eX5_settle_34, eX5_settle_37, eX5_settle_40, eX5_settle_41, eX5_settle_44, eX5_settle_46, eX5_settle_47, eX5_settle_50, eX5_settle_52, eX5_settle_53, eX5_settle_56, eX5_settle_59, eX5_settle_61, eX5_settle_62, eX5_settle_64, eX5_settle_65, eX5_settle_68, eX5_settle_71, eX5_settle_73, eX5_settle_74, eX5_settle_76, eX5_settle_77, eX5_settle_78, eX5_settle_80, eX5_settle_81, eX5_settle_84, eX5_settle_85, eX5_settle_87, eX5_settle_88, eX5_settle_90, eX5_settle_91, eX5_settle_92, eX5_settle_94, eX5_settle_95, eX5_settle_98, eX5_settle_99, eX5_settle_100, eX5_settle_102, eX5_settle_103, eX5_settle_106, eX5_settle_107, eX5_settle_109, eX5_settle_110, eX5_settle_112, eX5_settle_113, eX5_settle_114, eX5_settle_116, eX5_settle_117, eX5_settle_120, eX5_settle_123, eX5_settle_126, eX5_settle_129, eX5_settle_132, am_bi, Int.reduceEq, Int.reduceLT, Int.reduceLE, Int.reduceToNat, ite_self, Decidable.not_not, not_true_eq_false, not_false_eq_true, ↓reduceIte, am_ci, am_cr, am_ca, am_b0, am_b1, am_ts, am_tn, am_then_some, List.cons_append, List.nil_append, ne_eq, iI_lit, iI_add, iI_sub, iI_mul, iI_neg, iI_lt, iI_le, iI_eq, iI_in, iI_clz, dI_ap, dI_wr, setR_s, wE_R, setR_2, setR_n, setR_o, updI_s, updI_n, updI_2, tl_0, tl_1, tl_2, tl_3, tl_4, tl_5, tl_6, tl_7, tl_8, tl_9, tl_10, tl_11, tl_12, tl_13, tl_14, tl_15, tl_16, tn_3, tn_5, tn_13, tn_21, tn_29, tn_33, tn_37, tn_41, tn_45, tn_49, tn_53, tn_57, tn_61, tn_40, tn_p, tn_0, true_and, and_true, sk_0, sk_1, sk_2, sl_2, sk_3, sl_3, sk_4, sl_4, sk_5, sl_5, sk_6, sl_6, sk_7, sl_7, sk_8, sl_8, sk_9, sl_9, sk_10, sl_10, sk_11, sl_11, sk_12, sl_12, sk_13, sk_14, sl_14, sk_15, sk_40, sk_41, sl_41, sk_330, sl_330, sk_355, sk_356, sl_356, sk_357, sl_357, sk_358, sl_358, sk_359, sl_359, sk_360, sl_360, sk_361, sk_362, sl_362, sk_363, sk_376, sk_377, sl_377, sk_378, sk_379, sl_379, sk_380, sl_380, sk_381, sl_381, sk_382, sl_382, sk_383, sl_383, sk_384, sl_384, sk_385, sl_385, sk_386, sl_386, sk_387, sl_387, sk_388, sl_388, sk_389, sl_389, sk_390, sl_390, sk_391, sl_391, sk_392, sl_392, sk_393, sl_393, sk_394, sl_394, sr_0_0, sr_0_1, sr_0_2, sr_0_3, sr_0_4, sr_0_5, sr_0_6, sr_0_7, sr_0_8, sr_0_9, sr_1_0, sr_1_1, sr_1_2, sr_13_0, sr_15_0, sr_15_2, sr_40_0, sr_355_0, sr_355_1, sr_355_2, sr_355_3, sr_355_4, sr_355_5, sr_361_2, sr_361_5, sr_361_6, sr_363_0, sr_363_1, sr_376_0, sr_376_2, sr_378_0, sr_378_1, sr_378_2, sr_378_4, sr_378_8, sr_378_10, sr_378_11, sr_378_12, sr_378_14, sr_378_20, sr_378_21, sr_378_22, sr_378_23, sr_378_24, sr_378_25, sr_378_26, am_vs]
        rw [if_pos (by omega)]
        trivial
    | succ j ih =>
      intro r hh z hr J hz A
      rcases hz with rfl | rfl
      · refine ⟨hh, 0, ⟨J.1, J.2.1, J.2.2, fun e he b c q => ?_⟩, fun v4 v5 v6 v7 => ?_⟩
        · rcases A e he with x | ⟨x, -⟩
          · exact x b c q
          · omega
        · rw [eX5_settle_7]
          simp (disch := first | omega | simp only [am_ci, am_cr, am_ca]) only [eX5_settle_8, eX5_settle_10, eX5_settle_13, eX5_settle_14, eX5_settle_17, eX5_settle_20, eX5_settle_21, eX5_settle_22, eX5_settle_25, eX5_settle_26, eX5_settle_30, eX5_settle_31, eX5_settle_34, eX5_settle_37, eX5_settle_40, eX5_settle_41, eX5_settle_44, eX5_settle_46, eX5_settle_47, eX5_settle_50, eX5_settle_52, eX5_settle_53, eX5_settle_56, eX5_settle_59, eX5_settle_61, eX5_settle_62, eX5_settle_64, eX5_settle_65, eX5_settle_68, eX5_settle_71, eX5_settle_73, eX5_settle_74, eX5_settle_76, eX5_settle_77, eX5_settle_78, eX5_settle_80, eX5_settle_81, eX5_settle_84, eX5_settle_85, eX5_settle_87, eX5_settle_88, eX5_settle_90, eX5_settle_91, eX5_settle_92, eX5_settle_94, eX5_settle_95, eX5_settle_98, eX5_settle_99, eX5_settle_100, eX5_settle_102, eX5_settle_103, eX5_settle_106, eX5_settle_107, eX5_settle_109, eX5_settle_110, eX5_settle_112, eX5_settle_113, eX5_settle_114, eX5_settle_116, eX5_settle_117, eX5_settle_120, eX5_settle_123, eX5_settle_126, eX5_settle_129, eX5_settle_132, am_bi, Int.reduceEq, Int.reduceLT, Int.reduceLE, Int.reduceToNat, ite_self, Decidable.not_not, not_true_eq_false, not_false_eq_true, ↓reduceIte, am_ci, am_cr, am_ca, am_b0, am_b1, am_ts, am_tn, am_then_some, List.cons_append, List.nil_append, ne_eq, iI_lit, iI_add, iI_sub, iI_mul, iI_neg, iI_lt, iI_le, iI_eq, iI_in, iI_clz, dI_ap, dI_wr, setR_s, wE_R, setR_2, setR_n, setR_o, updI_s, updI_n, updI_2, tl_0, tl_1, tl_2, tl_3, tl_4, tl_5, tl_6, tl_7, tl_8, tl_9, tl_10, tl_11, tl_12, tl_13, tl_14, tl_15, tl_16, tn_3, tn_5, tn_13, tn_21, tn_29, tn_33, tn_37, tn_41, tn_45, tn_49, tn_53, tn_57, tn_61, tn_40, tn_p, tn_0, true_and, and_true, sk_0, sk_1, sk_2, sl_2, sk_3, sl_3, sk_4, sl_4, sk_5, sl_5, sk_6, sl_6, sk_7, sl_7, sk_8, sl_8, sk_9, sl_9, sk_10, sl_10, sk_11, sl_11, sk_12, sl_12, sk_13, sk_14, sl_14, sk_15, sk_40, sk_41, sl_41, sk_330, sl_330, sk_355, sk_356, sl_356, sk_357, sl_357, sk_358, sl_358, sk_359, sl_359, sk_360, sl_360, sk_361, sk_362, sl_362, sk_363, sk_376, sk_377, sl_377, sk_378, sk_379, sl_379, sk_380, sl_380, sk_381, sl_381, sk_382, sl_382, sk_383, sl_383, sk_384, sl_384, sk_385, sl_385, sk_386, sl_386, sk_387, sl_387, sk_388, sl_388, sk_389, sl_389, sk_390, sl_390, sk_391, sl_391, sk_392, sl_392, sk_393, sl_393, sk_394, sl_394, sr_0_0, sr_0_1, sr_0_2, sr_0_3, sr_0_4, sr_0_5, sr_0_6, sr_0_7, sr_0_8, sr_0_9, sr_1_0, sr_1_1, sr_1_2, sr_13_0, sr_15_0, sr_15_2, sr_40_0, sr_355_0, sr_355_1, sr_355_2, sr_355_3, sr_355_4, sr_355_5, sr_361_2, sr_361_5, sr_361_6, sr_363_0, sr_363_1, sr_376_0, sr_376_2, sr_378_0, sr_378_1, sr_378_2, sr_378_4, sr_378_8, sr_378_10, sr_378_11, sr_378_12, sr_378_14, sr_378_20, sr_378_21, sr_378_22, sr_378_23, sr_378_24, sr_378_25, sr_378_26, am_vs, rnE_1, updI_s]
          all_goals ((repeat' split) <;> first | rfl | trivial | (exfalso; omega))
      · obtain ⟨⟨g, z⟩, ⟨J2, -, A2, z2⟩, he⟩ := rnd r hh J (fun e he => (A e he).imp id (fun x => ⟨trivial, x.2⟩))
        obtain ⟨h', fl', Jx, hx⟩ := ih (r + 1) g z (by omega) J2 z2 A2
        refine ⟨h', fl', Jx, fun v4 v5 v6 v7 => ?_⟩
        have h2 := he (none, am_S0, dI (rnE E m h' fl')) (fun v5 v6 v7 => by
          have ih2 := hx (.int (iI W)) v5 v6 v7
          rw [show ((r + 1 : Nat) : Int) = (r : Int) + 1 by omega] at ih2
          dsimp only
          rw [eX5_settle_28]
          simp (disch := first | omega | simp only [am_ci, am_cr, am_ca]) only [eX5_settle_30, eX5_settle_31, eX5_settle_34, eX5_settle_37, eX5_settle_40, eX5_settle_41, eX5_settle_44, eX5_settle_46, eX5_settle_47, eX5_settle_50, eX5_settle_52, eX5_settle_53, eX5_settle_56, eX5_settle_59, eX5_settle_61, eX5_settle_62, eX5_settle_64, eX5_settle_65, eX5_settle_68, eX5_settle_71, eX5_settle_73, eX5_settle_74, eX5_settle_76, eX5_settle_77, eX5_settle_78, eX5_settle_80, eX5_settle_81, eX5_settle_84, eX5_settle_85, eX5_settle_87, eX5_settle_88, eX5_settle_90, eX5_settle_91, eX5_settle_92, eX5_settle_94, eX5_settle_95, eX5_settle_98, eX5_settle_99, eX5_settle_100, eX5_settle_102, eX5_settle_103, eX5_settle_106, eX5_settle_107, eX5_settle_109, eX5_settle_110, eX5_settle_112, eX5_settle_113, eX5_settle_114, eX5_settle_116, eX5_settle_117, eX5_settle_120, eX5_settle_123, eX5_settle_126, eX5_settle_129, am_bi, Int.reduceEq, Int.reduceLT, Int.reduceLE, Int.reduceToNat, ite_self, Decidable.not_not, not_true_eq_false, not_false_eq_true, ↓reduceIte, am_ci, am_cr, am_ca, am_b0, am_b1, am_ts, am_tn, am_then_some, List.cons_append, List.nil_append, ne_eq, iI_lit, iI_add, iI_sub, iI_mul, iI_neg, iI_lt, iI_le, iI_eq, iI_in, iI_clz, dI_ap, dI_wr, setR_s, wE_R, setR_2, setR_n, setR_o, updI_s, updI_n, updI_2, tl_0, tl_1, tl_2, tl_3, tl_4, tl_5, tl_6, tl_7, tl_8, tl_9, tl_10, tl_11, tl_12, tl_13, tl_14, tl_15, tl_16, tn_3, tn_5, tn_13, tn_21, tn_29, tn_33, tn_37, tn_41, tn_45, tn_49, tn_53, tn_57, tn_61, tn_40, tn_p, tn_0, true_and, and_true, sk_0, sk_1, sk_2, sl_2, sk_3, sl_3, sk_4, sl_4, sk_5, sl_5, sk_6, sl_6, sk_7, sl_7, sk_8, sl_8, sk_9, sl_9, sk_10, sl_10, sk_11, sl_11, sk_12, sl_12, sk_13, sk_14, sl_14, sk_15, sk_40, sk_41, sl_41, sk_330, sl_330, sk_355, sk_356, sl_356, sk_357, sl_357, sk_358, sl_358, sk_359, sl_359, sk_360, sl_360, sk_361, sk_362, sl_362, sk_363, sk_376, sk_377, sl_377, sk_378, sk_379, sl_379, sk_380, sl_380, sk_381, sl_381, sk_382, sl_382, sk_383, sl_383, sk_384, sl_384, sk_385, sl_385, sk_386, sl_386, sk_387, sl_387, sk_388, sl_388, sk_389, sl_389, sk_390, sl_390, sk_391, sl_391, sk_392, sl_392, sk_393, sl_393, sk_394, sl_394, sr_0_0, sr_0_1, sr_0_2, sr_0_3, sr_0_4, sr_0_5, sr_0_6, sr_0_7, sr_0_8, sr_0_9, sr_1_0, sr_1_1, sr_1_2, sr_13_0, sr_15_0, sr_15_2, sr_40_0, sr_355_0, sr_355_1, sr_355_2, sr_355_3, sr_355_4, sr_355_5, sr_361_2, sr_361_5, sr_361_6, sr_363_0, sr_363_1, sr_376_0, sr_376_2, sr_378_0, sr_378_1, sr_378_2, sr_378_4, sr_378_8, sr_378_10, sr_378_11, sr_378_12, sr_378_14, sr_378_20, sr_378_21, sr_378_22, sr_378_23, sr_378_24, sr_378_25, sr_378_26, am_vs, rnE_o, e1, am_lg28.k]
          repeat (first | rw [if_pos (by omega)] | rw [if_neg (by omega)])
          exact ih2) v5 v6 v7
        rw [eX5_settle_7]
        simp (disch := first | omega | simp only [am_ci, am_cr, am_ca]) only [eX5_settle_8, eX5_settle_10, eX5_settle_13, eX5_settle_14, eX5_settle_17, eX5_settle_20, eX5_settle_21, eX5_settle_22, eX5_settle_25, eX5_settle_26, am_bi, Int.reduceEq, Int.reduceLT, Int.reduceLE, Int.reduceToNat, ite_self, Decidable.not_not, not_true_eq_false, not_false_eq_true, ↓reduceIte, am_ci, am_cr, am_ca, am_b0, am_b1, am_ts, am_tn, am_then_some, List.cons_append, List.nil_append, ne_eq, iI_lit, iI_add, iI_sub, iI_mul, iI_neg, iI_lt, iI_le, iI_eq, iI_in, iI_clz, dI_ap, dI_wr, setR_s, wE_R, setR_2, setR_n, setR_o, updI_s, updI_n, updI_2, tl_0, tl_1, tl_2, tl_3, tl_4, tl_5, tl_6, tl_7, tl_8, tl_9, tl_10, tl_11, tl_12, tl_13, tl_14, tl_15, tl_16, tn_3, tn_5, tn_13, tn_21, tn_29, tn_33, tn_37, tn_41, tn_45, tn_49, tn_53, tn_57, tn_61, tn_40, tn_p, tn_0, true_and, and_true, sk_0, sk_1, sk_2, sl_2, sk_3, sl_3, sk_4, sl_4, sk_5, sl_5, sk_6, sl_6, sk_7, sl_7, sk_8, sl_8, sk_9, sl_9, sk_10, sl_10, sk_11, sl_11, sk_12, sl_12, sk_13, sk_14, sl_14, sk_15, sk_40, sk_41, sl_41, sk_330, sl_330, sk_355, sk_356, sl_356, sk_357, sl_357, sk_358, sl_358, sk_359, sl_359, sk_360, sl_360, sk_361, sk_362, sl_362, sk_363, sk_376, sk_377, sl_377, sk_378, sk_379, sl_379, sk_380, sl_380, sk_381, sl_381, sk_382, sl_382, sk_383, sl_383, sk_384, sl_384, sk_385, sl_385, sk_386, sl_386, sk_387, sl_387, sk_388, sl_388, sk_389, sl_389, sk_390, sl_390, sk_391, sl_391, sk_392, sl_392, sk_393, sl_393, sk_394, sl_394, sr_0_0, sr_0_1, sr_0_2, sr_0_3, sr_0_4, sr_0_5, sr_0_6, sr_0_7, sr_0_8, sr_0_9, sr_1_0, sr_1_1, sr_1_2, sr_13_0, sr_15_0, sr_15_2, sr_40_0, sr_355_0, sr_355_1, sr_355_2, sr_355_3, sr_355_4, sr_355_5, sr_361_2, sr_361_5, sr_361_6, sr_363_0, sr_363_1, sr_376_0, sr_376_2, sr_378_0, sr_378_1, sr_378_2, sr_378_4, sr_378_8, sr_378_10, sr_378_11, sr_378_12, sr_378_14, sr_378_20, sr_378_21, sr_378_22, sr_378_23, sr_378_24, sr_378_25, sr_378_26, am_vs, rnE_1, updI_s, rnE_f]
        repeat (first | rw [if_pos (by omega)] | rw [if_neg (by omega)])
        exact ⟨Or.inl trivial, h2⟩
  obtain ⟨h', fl', Jx, hx⟩ := key 6 0 h 1 (by omega) ⟨hV, fun i => Int.le_refl _, fun _ _ => rfl⟩ (Or.inr rfl) (fun e he => Or.inr ⟨rfl, rk_1 h S he⟩)
  refine ⟨h', fl', Jx, ?_⟩
  refine mX5_settle rfl rfl ?_
  have h2 := hx (.retAddr 0) (.retAddr 0) (.retAddr 0) (.retAddr 0)
  simp (disch := first | omega | simp only [am_ci, am_cr, am_ca]) only [eX5_settle_0, eX5_settle_1, eX5_settle_2, eX5_settle_5, eX5_settle_6, am_bi, Int.reduceEq, Int.reduceLT, Int.reduceLE, Int.reduceToNat, ite_self, Decidable.not_not, not_true_eq_false, not_false_eq_true, ↓reduceIte, am_ci, am_cr, am_ca, am_b0, am_b1, am_ts, am_tn, am_then_some, List.cons_append, List.nil_append, ne_eq, iI_lit, iI_add, iI_sub, iI_mul, iI_neg, iI_lt, iI_le, iI_eq, iI_in, iI_clz, dI_ap, dI_wr, setR_s, wE_R, setR_2, setR_n, setR_o, updI_s, updI_n, updI_2, tl_0, tl_1, tl_2, tl_3, tl_4, tl_5, tl_6, tl_7, tl_8, tl_9, tl_10, tl_11, tl_12, tl_13, tl_14, tl_15, tl_16, tn_3, tn_5, tn_13, tn_21, tn_29, tn_33, tn_37, tn_41, tn_45, tn_49, tn_53, tn_57, tn_61, tn_40, tn_p, tn_0, true_and, and_true, sk_0, sk_1, sk_2, sl_2, sk_3, sl_3, sk_4, sl_4, sk_5, sl_5, sk_6, sl_6, sk_7, sl_7, sk_8, sl_8, sk_9, sl_9, sk_10, sl_10, sk_11, sl_11, sk_12, sl_12, sk_13, sk_14, sl_14, sk_15, sk_40, sk_41, sl_41, sk_330, sl_330, sk_355, sk_356, sl_356, sk_357, sl_357, sk_358, sl_358, sk_359, sl_359, sk_360, sl_360, sk_361, sk_362, sl_362, sk_363, sk_376, sk_377, sl_377, sk_378, sk_379, sl_379, sk_380, sl_380, sk_381, sl_381, sk_382, sl_382, sk_383, sl_383, sk_384, sl_384, sk_385, sl_385, sk_386, sl_386, sk_387, sl_387, sk_388, sl_388, sk_389, sl_389, sk_390, sl_390, sk_391, sl_391, sk_392, sl_392, sk_393, sl_393, sk_394, sl_394, sr_0_0, sr_0_1, sr_0_2, sr_0_3, sr_0_4, sr_0_5, sr_0_6, sr_0_7, sr_0_8, sr_0_9, sr_1_0, sr_1_1, sr_1_2, sr_13_0, sr_15_0, sr_15_2, sr_40_0, sr_355_0, sr_355_1, sr_355_2, sr_355_3, sr_355_4, sr_355_5, sr_361_2, sr_361_5, sr_361_6, sr_363_0, sr_363_1, sr_376_0, sr_376_2, sr_378_0, sr_378_1, sr_378_2, sr_378_4, sr_378_8, sr_378_10, sr_378_11, sr_378_12, sr_378_14, sr_378_20, sr_378_21, sr_378_22, sr_378_23, sr_378_24, sr_378_25, sr_378_26, am_vs, rnE_1, rnE_f]
  exact ⟨Or.inr trivial, h2⟩
