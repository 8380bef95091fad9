/-! ===== fame: the reference's answer ===== -/
theorem r_fame {d s n D : Nat} {o : Int} {E : Nat → Nat → Int} (hs2 : (s : Int) < E 383 2) (hn2 : (n : Int) < E 383 4) (hD : D ≤ 30) (ho : 0 ≤ o ∧ o ≤ 1) (hw : wT (E 383)) (hq : qT (E 383)) (h99 : E 383 3 ≤ 99) (h9 : z85 (E 389)) {W : Nat} (hW : E 383 1 = (W : Int)) : ∃ E' M Df, (scr E E' ∧ bR (Rc (stA (E 383) (foD (E 383) (2 ^ s) n) s n D) (suQ (E 383) (foD (E 383) (2 ^ s) n) s D W)) M Df) ∧ am_sem (d + 5) 185 [.ref 378, .int (iI s), .int (iI n), .int (iI D), .int (iI o)] am_S0 (dI E) = some (some (.int (iI (if o = 0 then M else Df))), am_S0, dI E') := by
  have hb := hw.1.1
  have a0 := hb.2.1
  have a1 := hb.2.2.1
  have a2 := hb.2.2.2.1
  have a3 := hb.2.2.2.2.1
  have a4 := hb.2.2.2.2.2.1
  have hs : s < 4 := by omega
  have hn : n < 4 := by omega
  have h1 : w1T (E 383) := hq.1.2.2.1
  have wy := wyN_q hw hq
  have hne := hq.1.2.2.2.1
  obtain ⟨bk, bp, bd, bt⟩ := hb.2.2.2.2.2.2.2.1 s hs
  have sh := hq.2.2.1 s hs hs2
  have H0 := r_isShip (d := d + 2) (z := (s : Int)) (E := E) (by omega) hb.1
  have H1 := r_isNews (d := d + 2) (z := (n : Int)) (E := E) (by omega) hb.1
  have H2 := r_isTwo (d := d + 2) (z := o) (E := E) (by omega)
  have s16 : 2 ^ s < 16 := Nat.pow_lt_pow_right (show 1 < 2 by omega) hs
  have H3 := r_tries (d := d) (m := 2 ^ s) (n := n) (till := 150) (E := E) s16 hn hw h9 (by omega) (by omega)
  have S1 := scr_tr (E := E) (m := 2 ^ s) (n := n) (till := 150) hw (by omega) (by omega)
  have wo := tr_woR (E := E) (m := 2 ^ s) (n := n) hw hq hn (by omega)
  have wb := fun p hp => (trE_wo (E := E) (m := 2 ^ s) (n := n) (till := 150) hw (by omega) (by omega) (p := p) hp).2
  generalize hF : foD (E 383) (2 ^ s) n = F at *
  have i1 := iI_shl (k := s) (by omega)
  have e3 : trE E (2 ^ s) n 150 383 = E 383 := S1.1 383 (by omega)
  generalize hEt : trE E (2 ^ s) n 150 = Et at *
  unfold woR at wo
  rw [hF] at wo
  have thE : ∀ p day : Nat, p < 6 → day ≤ D → (thB F (E 383 3) p day = true ↔ (0 ≤ Et 390 p ∧ Et 390 p ≤ E 383 3 + day)) := fun p day hp hd => by
    have x := wo p hp
    have fb := (foD_p hw hq (2 ^ s) hn).1 p (by omega)
    rw [hF] at fb
    unfold thB
    rw [decide_eq_true_iff]
    by_cases c : F p ≤ 150
    · rw [x.1 c]; omega
    · have := x.2 (by omega)
      omega
  have HL : ∀ (g : Nat → Int) (day p kn S : Nat) (nw : Bool), day ≤ 2000000 → p < 6 → kn ≤ 1 → S < 64 → am_sem (d + 4) 186 [.ref 378, .int (iI s), .int (iI day), .int (iI D), .int (iI p), .int (iI kn), .int (iI S), .int (iI (if nw then 1 else 0))] am_S0 (dI (setR Et 393 g)) = some (none, am_S0, dI (setR Et 393 (laG D (thB F (E 383 3) p day) (decide (E 383 (29 + s) = 5)) nw day p kn S g))) := by
    intro g day p kn S nw h1 h2 h3 h4
    have o1 : ∀ b, b ≠ 393 → setR Et 393 g b = Et b := fun b hb => setR_n hb
    have := r_lays (d := d + 2) (s := s) (day := day) (p := p) (kn := kn) (S := S) (dd := (D : Int)) (T := thB F (E 383 3) p day) (nw := nw) (E := setR Et 393 g) hs (by rw [o1 383 (by omega), e3]; exact hb) (by omega) h1 h2 h3 h4 (by rw [o1 390 (by omega)]; exact wb p h2) (fun hd => by rw [o1 390 (by omega), o1 383 (by omega), e3]; exact thE p day h2 (by omega))
    rw [this, o1 383 (by omega), e3, setR_s, setR_2]
    unfold laG
    by_cases c : day ≤ D
    · rw [if_pos c, if_pos (by omega)]
    · rw [if_neg c, if_neg (by omega)]
  have hbits : ∀ (g : Nat → Int) (S : Nat), S < 64 → am_sem (d + 4) 189 [.int (iI S)] am_S0 (dI (setR Et 393 g)) = some (some (.int (iI (bcF 64 S))), am_S0, dI (setR Et 393 g)) := fun g S hS => r_bits (d := d + 3) (n := S) (E := setR Et 393 g) hS
  have oE : ∀ g b, b ≠ 393 → setR Et 393 g b = Et b := fun g b hb => setR_n hb
  generalize hA : stA (E 383) F s n D = A at *
  generalize hQ : suQ (E 383) F s D W = Q at *
  generalize hgh : decide (E 383 (29 + s) = 5) = gh at *
  -- the places in their turn
  have turn : ∀ (M Df : Int) (k : Nat) (g : Nat → Int), k < 768 * (D + 1) → (∀ i, i < 23808 → g i = 0 ∨ g i = 1) → (∀ i, i < 23808 → g i = 1 → Rc A Q i) → g k = 1 → ∃ g', ((∀ i, i < 23808 → g' i = 0 ∨ g' i = 1) ∧ (∀ i, i < 23808 → g' i = 1 → Rc A Q i) ∧ (∀ i, g i = 1 → g' i = 1) ∧ (∀ i, i ≤ k → g' i = g i) ∧ ∀ j, Q k j → g' j = 1) ∧ ∀ (R : am_R), (∀ v13, am_ev (am_sem (d + 4)) 10 cX10_fame 243 [.ref 378, .int (iI s), .int (iI n), .int (iI D), .int (iI o), .int (iI M), .int (iI Df), .int (iI k), .int (iI ((k / 768 : Nat) : Int)), .int (iI ((k / 128 % 6 : Nat) : Int)), .int (iI ((k / 64 % 2 : Nat) : Int)), .int (iI ((k % 64 : Nat) : Int)), .int (iI W), v13] [] am_S0 (dI (setR Et 393 g')) R) → ∀ v12 v13, am_ev (am_sem (d + 4)) 10 cX10_fame 223 [.ref 378, .int (iI s), .int (iI n), .int (iI D), .int (iI o), .int (iI M), .int (iI Df), .int (iI k), .int (iI ((k / 768 : Nat) : Int)), .int (iI ((k / 128 % 6 : Nat) : Int)), .int (iI ((k / 64 % 2 : Nat) : Int)), .int (iI ((k % 64 : Nat) : Int)), v12, v13] [] am_S0 (dI (setR Et 393 g)) R := by
    intro M Df k g hk g01 gS gk
    have qA : ∀ j, (k / 768 + 1 ≤ D ∧ j = laI (thB F (E 383 3) (k / 128 % 6) (k / 768 + 1)) gh false (k / 768 + 1) (k / 128 % 6) (k / 64 % 2) (k % 64)) → Q k j := fun j x => by
      rw [← hQ]; left; unfold suA; rw [hgh]; exact x
    have qB : ∀ w, w < W → ∀ to j, ((((E 383 (5 + w)).toNat = k / 128 % 6 ∧ to = (E 383 (13 + w)).toNat) ∨ ((E 383 (5 + w)).toNat ≠ k / 128 % 6 ∧ (E 383 (13 + w)).toNat = k / 128 % 6 ∧ to = (E 383 (5 + w)).toNat)) ∧ k / 768 + (tkT (E 383) s w).toNat ≤ D ∧ j = laI (thB F (E 383 3) to (k / 768 + (tkT (E 383) s w).toNat)) gh true (k / 768 + (tkT (E 383) s w).toNat) to (k / 64 % 2) (k % 64)) → Q k j := fun w hw to j x => by
      rw [← hQ]; right; refine ⟨w, hw, to, ?_⟩; rw [hgh]; exact x
    have qO : ∀ j, Q k j → (k / 768 + 1 ≤ D ∧ j = laI (thB F (E 383 3) (k / 128 % 6) (k / 768 + 1)) gh false (k / 768 + 1) (k / 128 % 6) (k / 64 % 2) (k % 64)) ∨ ∃ w, w < W ∧ ∃ to, (((E 383 (5 + w)).toNat = k / 128 % 6 ∧ to = (E 383 (13 + w)).toNat) ∨ ((E 383 (5 + w)).toNat ≠ k / 128 % 6 ∧ (E 383 (13 + w)).toNat = k / 128 % 6 ∧ to = (E 383 (5 + w)).toNat)) ∧ k / 768 + (tkT (E 383) s w).toNat ≤ D ∧ j = laI (thB F (E 383 3) to (k / 768 + (tkT (E 383) s w).toNat)) gh true (k / 768 + (tkT (E 383) s w).toNat) to (k / 64 % 2) (k % 64) := fun j x => by
      rw [← hQ] at x
      rcases x with x | ⟨w, hw, to, x⟩
      · left; unfold suA at x; rw [hgh] at x; exact x
      · right; rw [hgh] at x; exact ⟨w, hw, to, x⟩
    have f1 : k / 128 % 6 < 6 := Nat.mod_lt _ (by omega)
    have f2 : k / 64 % 2 ≤ 1 := by omega
    have f3 : k % 64 < 64 := Nat.mod_lt _ (by omega)
    have f4 : k < 768 * (k / 768 + 1) := by omega
    have f5 : k / 768 ≤ D := by omega
    generalize k / 768 = dy at *
    generalize k / 128 % 6 = p at *
    generalize k / 64 % 2 = kn at *
    generalize k % 64 = S at *
    have Rk : Rc A Q k := gS k (by omega) gk
    have HLa := HL g (dy + 1) p kn S false (by omega) f1 f2 f3
    rw [show ((dy + 1 : Nat) : Int) = (dy : Int) + 1 by omega, if_neg (by simp)] at HLa
    -- the ways
    obtain ⟨g', ⟨w1, w2, w3, w4, w5, w6⟩, he⟩ := am_fwd (X := Nat → Int) (I := fun w y => (∀ i, i < 23808 → y i = 0 ∨ y i = 1) ∧ (∀ i, i < 23808 → y i = 1 → Rc A Q i) ∧ (∀ i, g i = 1 → y i = 1) ∧ (∀ i, i ≤ k → y i = g i) ∧ (dy + 1 ≤ D → y (laI (thB F (E 383 3) p (dy + 1)) gh false (dy + 1) p kn S) = 1) ∧ ∀ w', w' < w → ∀ to, ((((E 383 (5 + w')).toNat = p ∧ to = (E 383 (13 + w')).toNat) ∨ ((E 383 (5 + w')).toNat ≠ p ∧ (E 383 (13 + w')).toNat = p ∧ to = (E 383 (5 + w')).toNat)) ∧ dy + (tkT (E 383) s w').toNat ≤ D) → y (laI (thB F (E 383 3) to (dy + (tkT (E 383) s w').toNat)) gh true (dy + (tkT (E 383) s w').toNat) to kn S) = 1) (ev := fun w y R => ∀ v13, am_ev (am_sem (d + 4)) 10 cX10_fame 243 [.ref 378, .int (iI s), .int (iI n), .int (iI D), .int (iI o), .int (iI M), .int (iI Df), .int (iI k), .int (iI dy), .int (iI p), .int (iI kn), .int (iI S), .int (iI w), v13] [] am_S0 (dI (setR Et 393 y)) R) (n := W) (by
      intro w y hw' ⟨j1, j2, j3, j4, j5, j6⟩
      have w8 : w < 8 := by omega
      have wv := wy w w8 (by omega)
      have nn := hne w w8 (by omega)
      have t1 := h1 w (by omega)
      have bl := (hb.2.2.2.2.2.2.1 w w8).2.2
      have tk := tkT_b (t := E 383) (s := s) (w := w) bl
      have tk1 : 1 ≤ tkT (E 383) s w := by unfold tkT; (repeat' split) <;> omega
      obtain ⟨a, ha⟩ := Int.eq_ofNat_of_zero_le wv.1.1
      obtain ⟨b, hbb⟩ := Int.eq_ofNat_of_zero_le wv.2.1
      obtain ⟨c, hc⟩ := Int.eq_ofNat_of_zero_le tk.1
      have HT := r_takesOf (d := d + 3) (q := 383) (s := s) (w := w) (E := setR Et 393 y) ⟨sk_383, sl_383⟩ (by rw [oE _ 383 (by omega), e3]; exact hb.1) hs w8
      rw [oE _ 383 (by omega), e3, hc] at HT
      have qw := qB w hw'
      have ta : (E 383 (5 + w)).toNat = a := by omega
      have tb : (E 383 (13 + w)).toNat = b := by omega
      have tc : (tkT (E 383) s w).toNat = c := by omega
      have e1 : E 383 1 = (W : Int) := hW
      rw [ta, tb, tc] at qw
      -- a way to to
      have go : ∀ to : Nat, to < 6 → ((a = p ∧ to = b) ∨ (a ≠ p ∧ b = p ∧ to = a)) → ((∀ i, i < 23808 → laG D (thB F (E 383 3) to (dy + c)) gh true (dy + c) to kn S y i = 0 ∨ laG D (thB F (E 383 3) to (dy + c)) gh true (dy + c) to kn S y i = 1) ∧ (∀ i, i < 23808 → laG D (thB F (E 383 3) to (dy + c)) gh true (dy + c) to kn S y i = 1 → Rc A Q i) ∧ (∀ i, g i = 1 → laG D (thB F (E 383 3) to (dy + c)) gh true (dy + c) to kn S y i = 1) ∧ (∀ i, i ≤ k → laG D (thB F (E 383 3) to (dy + c)) gh true (dy + c) to kn S y i = g i) ∧ (dy + 1 ≤ D → laG D (thB F (E 383 3) to (dy + c)) gh true (dy + c) to kn S y (laI (thB F (E 383 3) p (dy + 1)) gh false (dy + 1) p kn S) = 1) ∧ ∀ w', w' < w + 1 → ∀ to', ((((E 383 (5 + w')).toNat = p ∧ to' = (E 383 (13 + w')).toNat) ∨ ((E 383 (5 + w')).toNat ≠ p ∧ (E 383 (13 + w')).toNat = p ∧ to' = (E 383 (5 + w')).toNat)) ∧ dy + (tkT (E 383) s w').toNat ≤ D) → laG D (thB F (E 383 3) to (dy + c)) gh true (dy + c) to kn S y (laI (thB F (E 383 3) to' (dy + (tkT (E 383) s w').toNat)) gh true (dy + (tkT (E 383) s w').toNat) to' kn S) = 1) := by
        intro to h6 hto
        refine ⟨laG_01 j1, fun i hi x => ?_, fun i x => laG_e (j3 i x), fun i x => by rw [laG_k (by omega) h6 f2 f3]; exact j4 i x, fun x => laG_e (j5 x), fun w' hw2 to' x => ?_⟩
        · rcases laG_o x with x | x
          · exact j2 i hi x
          · exact Rc_s Rk (qw to i ⟨hto, x⟩)
        · by_cases e : w' = w
          · subst e
            rw [ta, tb, tc] at x
            have : to' = to := by omega
            subst this
            rw [tc]
            exact laG_h x.2
          · exact laG_e (j6 w' (by omega) to' x)
      have cst : ((dy + c : Nat) : Int) = (dy : Int) + (c : Int) := by omega
      by_cases ca : a = p
      · refine ⟨_, go b (by omega) (Or.inl ⟨ca, rfl⟩), fun R ih v13 => ?_⟩
        have HB := HL y (dy + c) b kn S true (by omega) (by omega) f2 f3
        rw [cst, if_pos rfl] at HB
        have ih2 := ih (.int (iI b))
        rw [show ((w + 1 : Nat) : Int) = (w : Int) + 1 by omega] at ih2
        subst ca
        rw [eX10_fame_243]
        simp (disch := first | omega | simp only [am_ci, am_cr, am_ca]) only [eX10_fame_245, eX10_fame_246, eX10_fame_249, eX10_fame_250, eX10_fame_251, eX10_fame_254, eX10_fame_255, eX10_fame_258, eX10_fame_259, eX10_fame_261, eX10_fame_262, eX10_fame_263, eX10_fame_265, eX10_fame_268, eX10_fame_269, eX10_fame_272, eX10_fame_274, eX10_fame_276, eX10_fame_277, eX10_fame_278, eX10_fame_281, eX10_fame_282, eX10_fame_285, eX10_fame_287, eX10_fame_289, eX10_fame_290, eX10_fame_291, eX10_fame_293, eX10_fame_296, eX10_fame_297, eX10_fame_300, eX10_fame_301, eX10_fame_303, eX10_fame_304, eX10_fame_305, eX10_fame_308, eX10_fame_309, eX10_fame_311, eX10_fame_313, eX10_fame_316, eX10_fame_317, eX10_fame_318, eX10_fame_320, eX10_fame_321, eX10_fame_324, eX10_fame_325, eX10_fame_327, eX10_fame_330, eX10_fame_331, eX10_fame_332, eX10_fame_334, eX10_fame_336, eX10_fame_338, eX10_fame_339, eX10_fame_342, eX10_fame_345, am_bi, Int.reduceEq, Int.reduceLT, Int.reduceLE, Int.reduceToNat, ite_self, Decidable.not_not, not_true_eq_false, not_false_eq_true, ↓reduceIte, am_ci, am_cr, am_ca, am_b0, am_b1, am_ts, am_tn, am_then_some, List.cons_append, List.nil_append, ne_eq, iI_lit, iI_add, iI_sub, iI_mul, iI_neg, iI_lt, iI_le, iI_eq, iI_in, iI_clz, dI_ap, dI_wr, setR_s, wE_R, setR_2, setR_n, setR_o, updI_s, updI_n, updI_2, tl_0, tl_1, tl_2, tl_3, tl_4, tl_5, tl_6, tl_7, tl_8, tl_9, tl_10, tl_11, tl_12, tl_13, tl_14, tl_15, tl_16, tn_3, tn_5, tn_13, tn_21, tn_29, tn_33, tn_37, tn_41, tn_45, tn_49, tn_53, tn_57, tn_61, tn_40, tn_p, tn_0, true_and, and_true, sk_0, sk_1, sk_2, sl_2, sk_3, sl_3, sk_4, sl_4, sk_5, sl_5, sk_6, sl_6, sk_7, sl_7, sk_8, sl_8, sk_9, sl_9, sk_10, sl_10, sk_11, sl_11, sk_12, sl_12, sk_13, sk_14, sl_14, sk_15, sk_40, sk_41, sl_41, sk_330, sl_330, sk_355, sk_356, sl_356, sk_357, sl_357, sk_358, sl_358, sk_359, sl_359, sk_360, sl_360, sk_361, sk_362, sl_362, sk_363, sk_376, sk_377, sl_377, sk_378, sk_379, sl_379, sk_380, sl_380, sk_381, sl_381, sk_382, sl_382, sk_383, sl_383, sk_384, sl_384, sk_385, sl_385, sk_386, sl_386, sk_387, sl_387, sk_388, sl_388, sk_389, sl_389, sk_390, sl_390, sk_391, sl_391, sk_392, sl_392, sk_393, sl_393, sk_394, sl_394, sr_0_0, sr_0_1, sr_0_2, sr_0_3, sr_0_4, sr_0_5, sr_0_6, sr_0_7, sr_0_8, sr_0_9, sr_1_0, sr_1_1, sr_1_2, sr_13_0, sr_15_0, sr_15_2, sr_40_0, sr_355_0, sr_355_1, sr_355_2, sr_355_3, sr_355_4, sr_355_5, sr_361_2, sr_361_5, sr_361_6, sr_363_0, sr_363_1, sr_376_0, sr_376_2, sr_378_0, sr_378_1, sr_378_2, sr_378_4, sr_378_8, sr_378_10, sr_378_11, sr_378_12, sr_378_14, sr_378_20, sr_378_21, sr_378_22, sr_378_23, sr_378_24, sr_378_25, sr_378_26, am_vs, oE, e3, e1, ha, hbb, HT, HB]
        repeat (first | rw [if_pos (by omega)] | rw [if_neg (by omega)])
        exact ih2
      · by_cases cb : b = p
        · refine ⟨_, go a (by omega) (Or.inr ⟨ca, cb, rfl⟩), fun R ih v13 => ?_⟩
          have HB := HL y (dy + c) a kn S true (by omega) (by omega) f2 f3
          rw [cst, if_pos rfl] at HB
          have ih2 := ih (.int (iI a))
          rw [show ((w + 1 : Nat) : Int) = (w : Int) + 1 by omega] at ih2
          subst cb
          rw [eX10_fame_243]
          simp (disch := first | omega | simp only [am_ci, am_cr, am_ca]) only [eX10_fame_245, eX10_fame_246, eX10_fame_249, eX10_fame_250, eX10_fame_251, eX10_fame_254, eX10_fame_255, eX10_fame_258, eX10_fame_259, eX10_fame_261, eX10_fame_262, eX10_fame_263, eX10_fame_265, eX10_fame_268, eX10_fame_269, eX10_fame_272, eX10_fame_274, eX10_fame_276, eX10_fame_277, eX10_fame_278, eX10_fame_281, eX10_fame_282, eX10_fame_285, eX10_fame_287, eX10_fame_289, eX10_fame_290, eX10_fame_291, eX10_fame_293, eX10_fame_296, eX10_fame_297, eX10_fame_300, eX10_fame_301, eX10_fame_303, eX10_fame_304, eX10_fame_305, eX10_fame_308, eX10_fame_309, eX10_fame_311, eX10_fame_313, eX10_fame_316, eX10_fame_317, eX10_fame_318, eX10_fame_320, eX10_fame_321, eX10_fame_324, eX10_fame_325, eX10_fame_327, eX10_fame_330, eX10_fame_331, eX10_fame_332, eX10_fame_334, eX10_fame_336, eX10_fame_338, eX10_fame_339, eX10_fame_342, eX10_fame_345, am_bi, Int.reduceEq, Int.reduceLT, Int.reduceLE, Int.reduceToNat, ite_self, Decidable.not_not, not_true_eq_false, not_false_eq_true, ↓reduceIte, am_ci, am_cr, am_ca, am_b0, am_b1, am_ts, am_tn, am_then_some, List.cons_append, List.nil_append, ne_eq, iI_lit, iI_add, iI_sub, iI_mul, iI_neg, iI_lt, iI_le, iI_eq, iI_in, iI_clz, dI_ap, dI_wr, setR_s, wE_R, setR_2, setR_n, setR_o, updI_s, updI_n, updI_2, tl_0, tl_1, tl_2, tl_3, tl_4, tl_5, tl_6, tl_7, tl_8, tl_9, tl_10, tl_11, tl_12, tl_13, tl_14, tl_15, tl_16, tn_3, tn_5, tn_13, tn_21, tn_29, tn_33, tn_37, tn_41, tn_45, tn_49, tn_53, tn_57, tn_61, tn_40, tn_p, tn_0, true_and, and_true, sk_0, sk_1, sk_2, sl_2, sk_3, sl_3, sk_4, sl_4, sk_5, sl_5, sk_6, sl_6, sk_7, sl_7, sk_8, sl_8, sk_9, sl_9, sk_10, sl_10, sk_11, sl_11, sk_12, sl_12, sk_13, sk_14, sl_14, sk_15, sk_40, sk_41, sl_41, sk_330, sl_330, sk_355, sk_356, sl_356, sk_357, sl_357, sk_358, sl_358, sk_359, sl_359, sk_360, sl_360, sk_361, sk_362, sl_362, sk_363, sk_376, sk_377, sl_377, sk_378, sk_379, sl_379, sk_380, sl_380, sk_381, sl_381, sk_382, sl_382, sk_383, sl_383, sk_384, sl_384, sk_385, sl_385, sk_386, sl_386, sk_387, sl_387, sk_388, sl_388, sk_389, sl_389, sk_390, sl_390, sk_391, sl_391, sk_392, sl_392, sk_393, sl_393, sk_394, sl_394, sr_0_0, sr_0_1, sr_0_2, sr_0_3, sr_0_4, sr_0_5, sr_0_6, sr_0_7, sr_0_8, sr_0_9, sr_1_0, sr_1_1, sr_1_2, sr_13_0, sr_15_0, sr_15_2, sr_40_0, sr_355_0, sr_355_1, sr_355_2, sr_355_3, sr_355_4, sr_355_5, sr_361_2, sr_361_5, sr_361_6, sr_363_0, sr_363_1, sr_376_0, sr_376_2, sr_378_0, sr_378_1, sr_378_2, sr_378_4, sr_378_8, sr_378_10, sr_378_11, sr_378_12, sr_378_14, sr_378_20, sr_378_21, sr_378_22, sr_378_23, sr_378_24, sr_378_25, sr_378_26, am_vs, oE, e3, e1, ha, hbb, HT, HB]
          repeat (first | rw [if_pos (by omega)] | rw [if_neg (by omega)])
          exact ih2
        · refine ⟨y, ⟨j1, j2, j3, j4, j5, fun w' hw2 to' x => ?_⟩, fun R ih v13 => ?_⟩
          · by_cases e : w' = w
            · subst e
              rw [ta, tb] at x
              omega
            · exact j6 w' (by omega) to' x
          · have ih2 := ih (.int (iI (-1)))
            rw [show ((w + 1 : Nat) : Int) = (w : Int) + 1 by omega] at ih2
            rw [eX10_fame_243]
            simp (disch := first | omega | simp only [am_ci, am_cr, am_ca]) only [eX10_fame_245, eX10_fame_246, eX10_fame_249, eX10_fame_250, eX10_fame_251, eX10_fame_254, eX10_fame_255, eX10_fame_258, eX10_fame_259, eX10_fame_261, eX10_fame_262, eX10_fame_263, eX10_fame_265, eX10_fame_268, eX10_fame_269, eX10_fame_272, eX10_fame_274, eX10_fame_276, eX10_fame_277, eX10_fame_278, eX10_fame_281, eX10_fame_282, eX10_fame_285, eX10_fame_287, eX10_fame_289, eX10_fame_290, eX10_fame_291, eX10_fame_293, eX10_fame_296, eX10_fame_297, eX10_fame_300, eX10_fame_301, eX10_fame_303, eX10_fame_304, eX10_fame_305, eX10_fame_308, eX10_fame_309, eX10_fame_311, eX10_fame_313, eX10_fame_316, eX10_fame_317, eX10_fame_318, eX10_fame_320, eX10_fame_321, eX10_fame_324, eX10_fame_325, eX10_fame_327, eX10_fame_330, eX10_fame_331, eX10_fame_332, eX10_fame_334, eX10_fame_336, eX10_fame_338, eX10_fame_339, eX10_fame_342, eX10_fame_345, am_bi, Int.reduceEq, Int.reduceLT, Int.reduceLE, Int.reduceToNat, ite_self, Decidable.not_not, not_true_eq_false, not_false_eq_true, ↓reduceIte, am_ci, am_cr, am_ca, am_b0, am_b1, am_ts, am_tn, am_then_some, List.cons_append, List.nil_append, ne_eq, iI_lit, iI_add, iI_sub, iI_mul, iI_neg, iI_lt, iI_le, iI_eq, iI_in, iI_clz, dI_ap, dI_wr, setR_s, wE_R, setR_2, setR_n, setR_o, updI_s, updI_n, updI_2, tl_0, tl_1, tl_2, tl_3, tl_4, tl_5, tl_6, tl_7, tl_8, tl_9, tl_10, tl_11, tl_12, tl_13, tl_14, tl_15, tl_16, tn_3, tn_5, tn_13, tn_21, tn_29, tn_33, tn_37, tn_41, tn_45, tn_49, tn_53, tn_57, tn_61, tn_40, tn_p, tn_0, true_and, and_true, sk_0, sk_1, sk_2, sl_2, sk_3, sl_3, sk_4, sl_4, sk_5, sl_5, sk_6, sl_6, sk_7, sl_7, sk_8, sl_8, sk_9, sl_9, sk_10, sl_10, sk_11, sl_11, sk_12, sl_12, sk_13, sk_14, sl_14, sk_15, sk_40, sk_41, sl_41, sk_330, sl_330, sk_355, sk_356, sl_356, sk_357, sl_357, sk_358, sl_358, sk_359, sl_359, sk_360, sl_360, sk_361, sk_362, sl_362, sk_363, sk_376, sk_377, sl_377, sk_378, sk_379, sl_379, sk_380, sl_380, sk_381, sl_381, sk_382, sl_382, sk_383, sl_383, sk_384, sl_384, sk_385, sl_385, sk_386, sl_386, sk_387, sl_387, sk_388, sl_388, sk_389, sl_389, sk_390, sl_390, sk_391, sl_391, sk_392, sl_392, sk_393, sl_393, sk_394, sl_394, sr_0_0, sr_0_1, sr_0_2, sr_0_3, sr_0_4, sr_0_5, sr_0_6, sr_0_7, sr_0_8, sr_0_9, sr_1_0, sr_1_1, sr_1_2, sr_13_0, sr_15_0, sr_15_2, sr_40_0, sr_355_0, sr_355_1, sr_355_2, sr_355_3, sr_355_4, sr_355_5, sr_361_2, sr_361_5, sr_361_6, sr_363_0, sr_363_1, sr_376_0, sr_376_2, sr_378_0, sr_378_1, sr_378_2, sr_378_4, sr_378_8, sr_378_10, sr_378_11, sr_378_12, sr_378_14, sr_378_20, sr_378_21, sr_378_22, sr_378_23, sr_378_24, sr_378_25, sr_378_26, am_vs, oE, e3, e1, ha, hbb]
            repeat (first | rw [if_pos (by omega)] | rw [if_neg (by omega)])
            exact ih2) (k := 0) (x := laG D (thB F (E 383 3) p (dy + 1)) gh false (dy + 1) p kn S g) (by omega) ⟨laG_01 g01, fun i hi x => by
        rcases laG_o x with x | x
        · exact gS i hi x
        · exact Rc_s Rk (qA i x), fun i x => laG_e x, fun i x => laG_k (by omega) f1 f2 f3, fun x => laG_h x, fun w' hw' => by omega⟩
    refine ⟨g', ⟨w1, w2, w3, w4, fun j x => ?_⟩, fun R h v12 v13 => ?_⟩
    · rcases qO j x with ⟨x, y⟩ | ⟨w, hw', to, x, y, z⟩
      · rw [y]; exact w5 x
      · rw [z]; exact w6 w hw' to ⟨x, y⟩
    · have h2 := he R h v13
      simp (disch := first | omega | simp only [am_ci, am_cr, am_ca]) only [eX10_fame_223, eX10_fame_224, eX10_fame_225, eX10_fame_227, eX10_fame_228, eX10_fame_229, eX10_fame_230, eX10_fame_232, eX10_fame_234, eX10_fame_236, eX10_fame_237, eX10_fame_240, eX10_fame_241, am_bi, Int.reduceEq, Int.reduceLT, Int.reduceLE, Int.reduceToNat, ite_self, Decidable.not_not, not_true_eq_false, not_false_eq_true, ↓reduceIte, am_ci, am_cr, am_ca, am_b0, am_b1, am_ts, am_tn, am_then_some, List.cons_append, List.nil_append, ne_eq, iI_lit, iI_add, iI_sub, iI_mul, iI_neg, iI_lt, iI_le, iI_eq, iI_in, iI_clz, dI_ap, dI_wr, setR_s, wE_R, setR_2, setR_n, setR_o, updI_s, updI_n, updI_2, tl_0, tl_1, tl_2, tl_3, tl_4, tl_5, tl_6, tl_7, tl_8, tl_9, tl_10, tl_11, tl_12, tl_13, tl_14, tl_15, tl_16, tn_3, tn_5, tn_13, tn_21, tn_29, tn_33, tn_37, tn_41, tn_45, tn_49, tn_53, tn_57, tn_61, tn_40, tn_p, tn_0, true_and, and_true, sk_0, sk_1, sk_2, sl_2, sk_3, sl_3, sk_4, sl_4, sk_5, sl_5, sk_6, sl_6, sk_7, sl_7, sk_8, sl_8, sk_9, sl_9, sk_10, sl_10, sk_11, sl_11, sk_12, sl_12, sk_13, sk_14, sl_14, sk_15, sk_40, sk_41, sl_41, sk_330, sl_330, sk_355, sk_356, sl_356, sk_357, sl_357, sk_358, sl_358, sk_359, sl_359, sk_360, sl_360, sk_361, sk_362, sl_362, sk_363, sk_376, sk_377, sl_377, sk_378, sk_379, sl_379, sk_380, sl_380, sk_381, sl_381, sk_382, sl_382, sk_383, sl_383, sk_384, sl_384, sk_385, sl_385, sk_386, sl_386, sk_387, sl_387, sk_388, sl_388, sk_389, sl_389, sk_390, sl_390, sk_391, sl_391, sk_392, sl_392, sk_393, sl_393, sk_394, sl_394, sr_0_0, sr_0_1, sr_0_2, sr_0_3, sr_0_4, sr_0_5, sr_0_6, sr_0_7, sr_0_8, sr_0_9, sr_1_0, sr_1_1, sr_1_2, sr_13_0, sr_15_0, sr_15_2, sr_40_0, sr_355_0, sr_355_1, sr_355_2, sr_355_3, sr_355_4, sr_355_5, sr_361_2, sr_361_5, sr_361_6, sr_363_0, sr_363_1, sr_376_0, sr_376_2, sr_378_0, sr_378_1, sr_378_2, sr_378_4, sr_378_8, sr_378_10, sr_378_11, sr_378_12, sr_378_14, sr_378_20, sr_378_21, sr_378_22, sr_378_23, sr_378_24, sr_378_25, sr_378_26, am_vs, HLa]
      exact h2
  -- the start
  obtain ⟨b, hbb⟩ := Int.eq_ofNat_of_zero_le bp.1
  have bg0 : 0 ≤ bgT (E 383) s - E 383 3 ∧ bgT (E 383) s - E 383 3 ≤ 2000000 := by
    have c1 := hb.1 (37 + s)
    unfold bgT
    split <;> omega
  obtain ⟨dy, hdy⟩ := Int.eq_ofNat_of_zero_le bg0.1
  have hkn : (E 383 (45 + s)).toNat / 2 ^ n % 2 ≤ 1 := by omega
  have iA := iI_bit (x := E 383 (45 + s)) (n := n) (by omega) (by omega) (by omega)
  have HBg := fun g : Nat → Int => r_beginOf (d := d + 3) (s := s) (E := setR Et 393 g) hs (by rw [oE _ 383 (by omega), e3]; exact hb.1)
  have aA : ∀ i, A i ↔ (dy ≤ D ∧ i = laI (thB F (E 383 3) b dy) gh (decide (0 < E 383 (37 + s))) dy b ((E 383 (45 + s)).toNat / 2 ^ n % 2) 0) := fun i => by
    rw [← hA]
    unfold stA
    rw [hgh, hbb]
    constructor
    · rintro ⟨x, x1, x2, x3⟩
      have : x = dy := by omega
      subst this
      exact ⟨x2, x3⟩
    · rintro ⟨x2, x3⟩
      exact ⟨dy, by omega, x2, x3⟩
  have b6 : b < 6 := by omega
  obtain ⟨⟨g, M, Df⟩, ⟨i1', i2, i3, i4, i5⟩, he⟩ := am_fwd (X := (Nat → Int) × Int × Int) (I := fun k y => (∀ i, i < 23808 → y.1 i = 0 ∨ y.1 i = 1) ∧ (∀ i, i < 23808 → y.1 i = 1 → Rc A Q i) ∧ (∀ i, A i → y.1 i = 1) ∧ (∀ i, i < k → y.1 i = 1 → ∀ j, Q i j → y.1 j = 1) ∧ bR (fun i => i < k ∧ y.1 i = 1) y.2.1 y.2.2) (ev := fun k y R => ∀ v8 v9 v10 v11 v12 v13, am_ev (am_sem (d + 4)) 10 cX10_fame 142 [.ref 378, .int (iI s), .int (iI n), .int (iI D), .int (iI o), .int (iI y.2.1), .int (iI y.2.2), .int (iI k), v8, v9, v10, v11, v12, v13] [] am_S0 (dI (setR Et 393 y.1)) R) (n := 768 * (D + 1)) (by
    rintro k ⟨g, M, Df⟩ hk ⟨j1, j2, j3, j4, j5⟩
    dsimp only at j1 j2 j3 j4 j5
    have kc : ((k + 1 : Nat) : Int) = (k : Int) + 1 := by omega
    rcases j1 k (by omega) with g0 | g1
    · refine ⟨(g, M, Df), ⟨j1, j2, j3, fun i hi x => ?_, bR_c j5 (fun i => ?_)⟩, fun R ih v8 v9 v10 v11 v12 v13 => ?_⟩
      · by_cases e : i = k
        · subst e; dsimp only at x; omega
        · exact j4 i (by omega) x
      · dsimp only
        constructor
        · rintro ⟨x, y⟩
          refine ⟨?_, y⟩
          by_cases e : i = k
          · subst e; omega
          · omega
        · rintro ⟨x, y⟩; exact ⟨by omega, y⟩
      · have ih2 := ih v8 v9 v10 v11 v12 v13
        dsimp only at ih2 ⊢
        rw [kc] at ih2
        rw [eX10_fame_142]
        simp (disch := first | omega | simp only [am_ci, am_cr, am_ca]) only [eX10_fame_144, eX10_fame_147, eX10_fame_148, eX10_fame_149, eX10_fame_150, eX10_fame_151, eX10_fame_154, eX10_fame_155, eX10_fame_158, eX10_fame_160, eX10_fame_161, eX10_fame_164, am_bi, Int.reduceEq, Int.reduceLT, Int.reduceLE, Int.reduceToNat, ite_self, Decidable.not_not, not_true_eq_false, not_false_eq_true, ↓reduceIte, am_ci, am_cr, am_ca, am_b0, am_b1, am_ts, am_tn, am_then_some, List.cons_append, List.nil_append, ne_eq, iI_lit, iI_add, iI_sub, iI_mul, iI_neg, iI_lt, iI_le, iI_eq, iI_in, iI_clz, dI_ap, dI_wr, setR_s, wE_R, setR_2, setR_n, setR_o, updI_s, updI_n, updI_2, tl_0, tl_1, tl_2, tl_3, tl_4, tl_5, tl_6, tl_7, tl_8, tl_9, tl_10, tl_11, tl_12, tl_13, tl_14, tl_15, tl_16, tn_3, tn_5, tn_13, tn_21, tn_29, tn_33, tn_37, tn_41, tn_45, tn_49, tn_53, tn_57, tn_61, tn_40, tn_p, tn_0, true_and, and_true, sk_0, sk_1, sk_2, sl_2, sk_3, sl_3, sk_4, sl_4, sk_5, sl_5, sk_6, sl_6, sk_7, sl_7, sk_8, sl_8, sk_9, sl_9, sk_10, sl_10, sk_11, sl_11, sk_12, sl_12, sk_13, sk_14, sl_14, sk_15, sk_40, sk_41, sl_41, sk_330, sl_330, sk_355, sk_356, sl_356, sk_357, sl_357, sk_358, sl_358, sk_359, sl_359, sk_360, sl_360, sk_361, sk_362, sl_362, sk_363, sk_376, sk_377, sl_377, sk_378, sk_379, sl_379, sk_380, sl_380, sk_381, sl_381, sk_382, sl_382, sk_383, sl_383, sk_384, sl_384, sk_385, sl_385, sk_386, sl_386, sk_387, sl_387, sk_388, sl_388, sk_389, sl_389, sk_390, sl_390, sk_391, sl_391, sk_392, sl_392, sk_393, sl_393, sk_394, sl_394, sr_0_0, sr_0_1, sr_0_2, sr_0_3, sr_0_4, sr_0_5, sr_0_6, sr_0_7, sr_0_8, sr_0_9, sr_1_0, sr_1_1, sr_1_2, sr_13_0, sr_15_0, sr_15_2, sr_40_0, sr_355_0, sr_355_1, sr_355_2, sr_355_3, sr_355_4, sr_355_5, sr_361_2, sr_361_5, sr_361_6, sr_363_0, sr_363_1, sr_376_0, sr_376_2, sr_378_0, sr_378_1, sr_378_2, sr_378_4, sr_378_8, sr_378_10, sr_378_11, sr_378_12, sr_378_14, sr_378_20, sr_378_21, sr_378_22, sr_378_23, sr_378_24, sr_378_25, sr_378_26, am_vs, oE, setR_s, g0]
        simp (disch := first | omega | simp only [am_ci, am_cr, am_ca]) only [eX10_fame_348, eX10_fame_351, am_bi, Int.reduceEq, Int.reduceLT, Int.reduceLE, Int.reduceToNat, ite_self, Decidable.not_not, not_true_eq_false, not_false_eq_true, ↓reduceIte, am_ci, am_cr, am_ca, am_b0, am_b1, am_ts, am_tn, am_then_some, List.cons_append, List.nil_append, ne_eq, iI_lit, iI_add, iI_sub, iI_mul, iI_neg, iI_lt, iI_le, iI_eq, iI_in, iI_clz, dI_ap, dI_wr, setR_s, wE_R, setR_2, setR_n, setR_o, updI_s, updI_n, updI_2, tl_0, tl_1, tl_2, tl_3, tl_4, tl_5, tl_6, tl_7, tl_8, tl_9, tl_10, tl_11, tl_12, tl_13, tl_14, tl_15, tl_16, tn_3, tn_5, tn_13, tn_21, tn_29, tn_33, tn_37, tn_41, tn_45, tn_49, tn_53, tn_57, tn_61, tn_40, tn_p, tn_0, true_and, and_true, sk_0, sk_1, sk_2, sl_2, sk_3, sl_3, sk_4, sl_4, sk_5, sl_5, sk_6, sl_6, sk_7, sl_7, sk_8, sl_8, sk_9, sl_9, sk_10, sl_10, sk_11, sl_11, sk_12, sl_12, sk_13, sk_14, sl_14, sk_15, sk_40, sk_41, sl_41, sk_330, sl_330, sk_355, sk_356, sl_356, sk_357, sl_357, sk_358, sl_358, sk_359, sl_359, sk_360, sl_360, sk_361, sk_362, sl_362, sk_363, sk_376, sk_377, sl_377, sk_378, sk_379, sl_379, sk_380, sl_380, sk_381, sl_381, sk_382, sl_382, sk_383, sl_383, sk_384, sl_384, sk_385, sl_385, sk_386, sl_386, sk_387, sl_387, sk_388, sl_388, sk_389, sl_389, sk_390, sl_390, sk_391, sl_391, sk_392, sl_392, sk_393, sl_393, sk_394, sl_394, sr_0_0, sr_0_1, sr_0_2, sr_0_3, sr_0_4, sr_0_5, sr_0_6, sr_0_7, sr_0_8, sr_0_9, sr_1_0, sr_1_1, sr_1_2, sr_13_0, sr_15_0, sr_15_2, sr_40_0, sr_355_0, sr_355_1, sr_355_2, sr_355_3, sr_355_4, sr_355_5, sr_361_2, sr_361_5, sr_361_6, sr_363_0, sr_363_1, sr_376_0, sr_376_2, sr_378_0, sr_378_1, sr_378_2, sr_378_4, sr_378_8, sr_378_10, sr_378_11, sr_378_12, sr_378_14, sr_378_20, sr_378_21, sr_378_22, sr_378_23, sr_378_24, sr_378_25, sr_378_26, am_vs]
        repeat (first | rw [if_pos (by omega)] | rw [if_neg (by omega)])
        exact ih2
    · have bS := bR_1 (R := fun i => i < k ∧ g i = 1) (R' := fun i => i < k + 1 ∧ g i = 1) (k := k) j5 (fun i x => x.1) (fun i => by
        constructor
        · rintro ⟨x, y⟩
          by_cases e : i = k
          · exact Or.inr e
          · exact Or.inl ⟨by omega, y⟩
        · rintro (⟨x, y⟩ | x)
          · exact ⟨by omega, y⟩
          · subst x; exact ⟨by omega, g1⟩)
      have Mb : 0 ≤ M ∧ M ≤ 64 := by
        rcases j5.1 with ⟨x, -⟩ | ⟨i, -, -, x, -⟩
        · omega
        · have := bcF_le 64 (i % 64); omega
      have bl := bcF_le 64 (k % 64)
      have HB := hbits g (k % 64) (Nat.mod_lt _ (by omega))
      obtain ⟨g', ⟨t1, t2, t3, t4, t5⟩, ht⟩ := turn (if M < (bcF 64 (k % 64) : Int) then (bcF 64 (k % 64) : Int) else M) (if M < (bcF 64 (k % 64) : Int) then ((k / 768 : Nat) : Int) else Df) k g hk j1 j2 g1
      refine ⟨(g', if M < (bcF 64 (k % 64) : Int) then (bcF 64 (k % 64) : Int) else M, if M < (bcF 64 (k % 64) : Int) then ((k / 768 : Nat) : Int) else Df), ⟨t1, t2, fun i x => t3 i (j3 i x), fun i hi x j q => ?_, bR_c bS (fun i => ?_)⟩, fun R ih v8 v9 v10 v11 v12 v13 => ?_⟩
      · dsimp only at x ⊢
        by_cases e : i = k
        · subst e; exact t5 j q
        · rw [t4 i (by omega)] at x
          exact t3 j (j4 i (by omega) x j q)
      · dsimp only
        constructor
        · rintro ⟨x, y⟩; rw [t4 i (by omega)] at y; exact ⟨x, y⟩
        · rintro ⟨x, y⟩; rw [← t4 i (by omega)] at y; exact ⟨x, y⟩
      · dsimp only at ih ⊢
        have h2 := ht R (fun v13 => by
          have ih2 := ih (.int (iI ((k / 768 : Nat) : Int))) (.int (iI ((k / 128 % 6 : Nat) : Int))) (.int (iI ((k / 64 % 2 : Nat) : Int))) (.int (iI ((k % 64 : Nat) : Int))) (.int (iI W)) v13
          rw [kc] at ih2
          rw [eX10_fame_243]
          simp (disch := first | omega | simp only [am_ci, am_cr, am_ca]) only [eX10_fame_245, eX10_fame_246, eX10_fame_249, eX10_fame_250, eX10_fame_251, am_bi, Int.reduceEq, Int.reduceLT, Int.reduceLE, Int.reduceToNat, ite_self, Decidable.not_not, not_true_eq_false, not_false_eq_true, ↓reduceIte, am_ci, am_cr, am_ca, am_b0, am_b1, am_ts, am_tn, am_then_some, List.cons_append, List.nil_append, ne_eq, iI_lit, iI_add, iI_sub, iI_mul, iI_neg, iI_lt, iI_le, iI_eq, iI_in, iI_clz, dI_ap, dI_wr, setR_s, wE_R, setR_2, setR_n, setR_o, updI_s, updI_n, updI_2, tl_0, tl_1, tl_2, tl_3, tl_4, tl_5, tl_6, tl_7, tl_8, tl_9, tl_10, tl_11, tl_12, tl_13, tl_14, tl_15, tl_16, tn_3, tn_5, tn_13, tn_21, tn_29, tn_33, tn_37, tn_41, tn_45, tn_49, tn_53, tn_57, tn_61, tn_40, tn_p, tn_0, true_and, and_true, sk_0, sk_1, sk_2, sl_2, sk_3, sl_3, sk_4, sl_4, sk_5, sl_5, sk_6, sl_6, sk_7, sl_7, sk_8, sl_8, sk_9, sl_9, sk_10, sl_10, sk_11, sl_11, sk_12, sl_12, sk_13, sk_14, sl_14, sk_15, sk_40, sk_41, sl_41, sk_330, sl_330, sk_355, sk_356, sl_356, sk_357, sl_357, sk_358, sl_358, sk_359, sl_359, sk_360, sl_360, sk_361, sk_362, sl_362, sk_363, sk_376, sk_377, sl_377, sk_378, sk_379, sl_379, sk_380, sl_380, sk_381, sl_381, sk_382, sl_382, sk_383, sl_383, sk_384, sl_384, sk_385, sl_385, sk_386, sl_386, sk_387, sl_387, sk_388, sl_388, sk_389, sl_389, sk_390, sl_390, sk_391, sl_391, sk_392, sl_392, sk_393, sl_393, sk_394, sl_394, sr_0_0, sr_0_1, sr_0_2, sr_0_3, sr_0_4, sr_0_5, sr_0_6, sr_0_7, sr_0_8, sr_0_9, sr_1_0, sr_1_1, sr_1_2, sr_13_0, sr_15_0, sr_15_2, sr_40_0, sr_355_0, sr_355_1, sr_355_2, sr_355_3, sr_355_4, sr_355_5, sr_361_2, sr_361_5, sr_361_6, sr_363_0, sr_363_1, sr_376_0, sr_376_2, sr_378_0, sr_378_1, sr_378_2, sr_378_4, sr_378_8, sr_378_10, sr_378_11, sr_378_12, sr_378_14, sr_378_20, sr_378_21, sr_378_22, sr_378_23, sr_378_24, sr_378_25, sr_378_26, am_vs, oE, e3, hW]
          simp (disch := first | omega | simp only [am_ci, am_cr, am_ca]) only [eX10_fame_348, eX10_fame_351, am_bi, Int.reduceEq, Int.reduceLT, Int.reduceLE, Int.reduceToNat, ite_self, Decidable.not_not, not_true_eq_false, not_false_eq_true, ↓reduceIte, am_ci, am_cr, am_ca, am_b0, am_b1, am_ts, am_tn, am_then_some, List.cons_append, List.nil_append, ne_eq, iI_lit, iI_add, iI_sub, iI_mul, iI_neg, iI_lt, iI_le, iI_eq, iI_in, iI_clz, dI_ap, dI_wr, setR_s, wE_R, setR_2, setR_n, setR_o, updI_s, updI_n, updI_2, tl_0, tl_1, tl_2, tl_3, tl_4, tl_5, tl_6, tl_7, tl_8, tl_9, tl_10, tl_11, tl_12, tl_13, tl_14, tl_15, tl_16, tn_3, tn_5, tn_13, tn_21, tn_29, tn_33, tn_37, tn_41, tn_45, tn_49, tn_53, tn_57, tn_61, tn_40, tn_p, tn_0, true_and, and_true, sk_0, sk_1, sk_2, sl_2, sk_3, sl_3, sk_4, sl_4, sk_5, sl_5, sk_6, sl_6, sk_7, sl_7, sk_8, sl_8, sk_9, sl_9, sk_10, sl_10, sk_11, sl_11, sk_12, sl_12, sk_13, sk_14, sl_14, sk_15, sk_40, sk_41, sl_41, sk_330, sl_330, sk_355, sk_356, sl_356, sk_357, sl_357, sk_358, sl_358, sk_359, sl_359, sk_360, sl_360, sk_361, sk_362, sl_362, sk_363, sk_376, sk_377, sl_377, sk_378, sk_379, sl_379, sk_380, sl_380, sk_381, sl_381, sk_382, sl_382, sk_383, sl_383, sk_384, sl_384, sk_385, sl_385, sk_386, sl_386, sk_387, sl_387, sk_388, sl_388, sk_389, sl_389, sk_390, sl_390, sk_391, sl_391, sk_392, sl_392, sk_393, sl_393, sk_394, sl_394, sr_0_0, sr_0_1, sr_0_2, sr_0_3, sr_0_4, sr_0_5, sr_0_6, sr_0_7, sr_0_8, sr_0_9, sr_1_0, sr_1_1, sr_1_2, sr_13_0, sr_15_0, sr_15_2, sr_40_0, sr_355_0, sr_355_1, sr_355_2, sr_355_3, sr_355_4, sr_355_5, sr_361_2, sr_361_5, sr_361_6, sr_363_0, sr_363_1, sr_376_0, sr_376_2, sr_378_0, sr_378_1, sr_378_2, sr_378_4, sr_378_8, sr_378_10, sr_378_11, sr_378_12, sr_378_14, sr_378_20, sr_378_21, sr_378_22, sr_378_23, sr_378_24, sr_378_25, sr_378_26, am_vs]
          repeat (first | rw [if_pos (by omega)] | rw [if_neg (by omega)])
          exact ih2) v12 v13
        have dv1 : (k : Int) / 768 = ((k / 768 : Nat) : Int) := rfl
        have dv2 : (k : Int) / 128 = ((k / 128 : Nat) : Int) := rfl
        have dv3 : (k : Int) / 64 = ((k / 64 : Nat) : Int) := rfl
        have rm1 : ((k / 128 : Nat) : Int) - ((k / 128 : Nat) : Int) / 6 * 6 = ((k / 128 % 6 : Nat) : Int) := by omega
        have rm2 : ((k / 64 : Nat) : Int) - ((k / 64 : Nat) : Int) / 2 * 2 = ((k / 64 % 2 : Nat) : Int) := by omega
        have rm3 : (k : Int) - ((k / 64 : Nat) : Int) * 64 = ((k % 64 : Nat) : Int) := by omega
        rw [eX10_fame_142]
        by_cases c : M < (bcF 64 (k % 64) : Int)
        · rw [if_pos c, if_pos c] at h2
          simp (disch := first | omega | simp only [am_ci, am_cr, am_ca]) only [eX10_fame_144, eX10_fame_147, eX10_fame_148, eX10_fame_149, eX10_fame_150, eX10_fame_151, eX10_fame_154, eX10_fame_155, eX10_fame_158, eX10_fame_160, eX10_fame_161, eX10_fame_164, eX10_fame_167, eX10_fame_169, eX10_fame_172, eX10_fame_173, eX10_fame_175, eX10_fame_177, eX10_fame_180, eX10_fame_181, eX10_fame_183, eX10_fame_184, eX10_fame_186, eX10_fame_188, eX10_fame_190, eX10_fame_191, eX10_fame_192, eX10_fame_193, eX10_fame_195, eX10_fame_197, eX10_fame_199, eX10_fame_200, eX10_fame_202, eX10_fame_204, eX10_fame_207, eX10_fame_209, eX10_fame_212, eX10_fame_214, eX10_fame_217, eX10_fame_219, eX10_fame_221, am_bi, Int.reduceEq, Int.reduceLT, Int.reduceLE, Int.reduceToNat, ite_self, Decidable.not_not, not_true_eq_false, not_false_eq_true, ↓reduceIte, am_ci, am_cr, am_ca, am_b0, am_b1, am_ts, am_tn, am_then_some, List.cons_append, List.nil_append, ne_eq, iI_lit, iI_add, iI_sub, iI_mul, iI_neg, iI_lt, iI_le, iI_eq, iI_in, iI_clz, dI_ap, dI_wr, setR_s, wE_R, setR_2, setR_n, setR_o, updI_s, updI_n, updI_2, tl_0, tl_1, tl_2, tl_3, tl_4, tl_5, tl_6, tl_7, tl_8, tl_9, tl_10, tl_11, tl_12, tl_13, tl_14, tl_15, tl_16, tn_3, tn_5, tn_13, tn_21, tn_29, tn_33, tn_37, tn_41, tn_45, tn_49, tn_53, tn_57, tn_61, tn_40, tn_p, tn_0, true_and, and_true, sk_0, sk_1, sk_2, sl_2, sk_3, sl_3, sk_4, sl_4, sk_5, sl_5, sk_6, sl_6, sk_7, sl_7, sk_8, sl_8, sk_9, sl_9, sk_10, sl_10, sk_11, sl_11, sk_12, sl_12, sk_13, sk_14, sl_14, sk_15, sk_40, sk_41, sl_41, sk_330, sl_330, sk_355, sk_356, sl_356, sk_357, sl_357, sk_358, sl_358, sk_359, sl_359, sk_360, sl_360, sk_361, sk_362, sl_362, sk_363, sk_376, sk_377, sl_377, sk_378, sk_379, sl_379, sk_380, sl_380, sk_381, sl_381, sk_382, sl_382, sk_383, sl_383, sk_384, sl_384, sk_385, sl_385, sk_386, sl_386, sk_387, sl_387, sk_388, sl_388, sk_389, sl_389, sk_390, sl_390, sk_391, sl_391, sk_392, sl_392, sk_393, sl_393, sk_394, sl_394, sr_0_0, sr_0_1, sr_0_2, sr_0_3, sr_0_4, sr_0_5, sr_0_6, sr_0_7, sr_0_8, sr_0_9, sr_1_0, sr_1_1, sr_1_2, sr_13_0, sr_15_0, sr_15_2, sr_40_0, sr_355_0, sr_355_1, sr_355_2, sr_355_3, sr_355_4, sr_355_5, sr_361_2, sr_361_5, sr_361_6, sr_363_0, sr_363_1, sr_376_0, sr_376_2, sr_378_0, sr_378_1, sr_378_2, sr_378_4, sr_378_8, sr_378_10, sr_378_11, sr_378_12, sr_378_14, sr_378_20, sr_378_21, sr_378_22, sr_378_23, sr_378_24, sr_378_25, sr_378_26, am_vs, oE, setR_s, g1, iI_dv, dv1, dv2, dv3, rm1, rm2, rm3, HB]
          repeat (first | rw [if_pos (by omega)] | rw [if_neg (by omega)])
          exact h2
        · rw [if_neg c, if_neg c] at h2
          simp (disch := first | omega | simp only [am_ci, am_cr, am_ca]) only [eX10_fame_144, eX10_fame_147, eX10_fame_148, eX10_fame_149, eX10_fame_150, eX10_fame_151, eX10_fame_154, eX10_fame_155, eX10_fame_158, eX10_fame_160, eX10_fame_161, eX10_fame_164, eX10_fame_167, eX10_fame_169, eX10_fame_172, eX10_fame_173, eX10_fame_175, eX10_fame_177, eX10_fame_180, eX10_fame_181, eX10_fame_183, eX10_fame_184, eX10_fame_186, eX10_fame_188, eX10_fame_190, eX10_fame_191, eX10_fame_192, eX10_fame_193, eX10_fame_195, eX10_fame_197, eX10_fame_199, eX10_fame_200, eX10_fame_202, eX10_fame_204, eX10_fame_207, eX10_fame_209, eX10_fame_212, eX10_fame_214, eX10_fame_217, eX10_fame_219, eX10_fame_221, am_bi, Int.reduceEq, Int.reduceLT, Int.reduceLE, Int.reduceToNat, ite_self, Decidable.not_not, not_true_eq_false, not_false_eq_true, ↓reduceIte, am_ci, am_cr, am_ca, am_b0, am_b1, am_ts, am_tn, am_then_some, List.cons_append, List.nil_append, ne_eq, iI_lit, iI_add, iI_sub, iI_mul, iI_neg, iI_lt, iI_le, iI_eq, iI_in, iI_clz, dI_ap, dI_wr, setR_s, wE_R, setR_2, setR_n, setR_o, updI_s, updI_n, updI_2, tl_0, tl_1, tl_2, tl_3, tl_4, tl_5, tl_6, tl_7, tl_8, tl_9, tl_10, tl_11, tl_12, tl_13, tl_14, tl_15, tl_16, tn_3, tn_5, tn_13, tn_21, tn_29, tn_33, tn_37, tn_41, tn_45, tn_49, tn_53, tn_57, tn_61, tn_40, tn_p, tn_0, true_and, and_true, sk_0, sk_1, sk_2, sl_2, sk_3, sl_3, sk_4, sl_4, sk_5, sl_5, sk_6, sl_6, sk_7, sl_7, sk_8, sl_8, sk_9, sl_9, sk_10, sl_10, sk_11, sl_11, sk_12, sl_12, sk_13, sk_14, sl_14, sk_15, sk_40, sk_41, sl_41, sk_330, sl_330, sk_355, sk_356, sl_356, sk_357, sl_357, sk_358, sl_358, sk_359, sl_359, sk_360, sl_360, sk_361, sk_362, sl_362, sk_363, sk_376, sk_377, sl_377, sk_378, sk_379, sl_379, sk_380, sl_380, sk_381, sl_381, sk_382, sl_382, sk_383, sl_383, sk_384, sl_384, sk_385, sl_385, sk_386, sl_386, sk_387, sl_387, sk_388, sl_388, sk_389, sl_389, sk_390, sl_390, sk_391, sl_391, sk_392, sl_392, sk_393, sl_393, sk_394, sl_394, sr_0_0, sr_0_1, sr_0_2, sr_0_3, sr_0_4, sr_0_5, sr_0_6, sr_0_7, sr_0_8, sr_0_9, sr_1_0, sr_1_1, sr_1_2, sr_13_0, sr_15_0, sr_15_2, sr_40_0, sr_355_0, sr_355_1, sr_355_2, sr_355_3, sr_355_4, sr_355_5, sr_361_2, sr_361_5, sr_361_6, sr_363_0, sr_363_1, sr_376_0, sr_376_2, sr_378_0, sr_378_1, sr_378_2, sr_378_4, sr_378_8, sr_378_10, sr_378_11, sr_378_12, sr_378_14, sr_378_20, sr_378_21, sr_378_22, sr_378_23, sr_378_24, sr_378_25, sr_378_26, am_vs, oE, setR_s, g1, iI_dv, dv1, dv2, dv3, rm1, rm2, rm3, HB]
          repeat (first | rw [if_pos (by omega)] | rw [if_neg (by omega)])
          exact h2) (k := 0) (x := (laG D (thB F (E 383 3) b dy) gh (decide (0 < E 383 (37 + s))) dy b ((E 383 (45 + s)).toNat / 2 ^ n % 2) 0 (flT (Et 393) 0 23808), 0, 0)) (by omega) ⟨laG_01 (fun i hi => Or.inl (by unfold flT; rw [if_pos hi])), fun i hi x => by
      rcases laG_o x with x | x
      · unfold flT at x; rw [if_pos hi] at x; omega
      · exact Rc_z ((aA i).mpr x), fun i x => by
        obtain ⟨x1, x2⟩ := (aA i).mp x
        rw [x2]; exact laG_h x1, fun i hi => by omega, ⟨Or.inl ⟨rfl, rfl⟩, fun i x => by omega⟩⟩
  dsimp only at i1' i2 i3 i4 i5 he
  -- what is marked is what it can come to
  have Qb : ∀ i j, i < 768 * (D + 1) → Q i j → j < 768 * (D + 1) := by
    intro i j hi q
    rw [← hQ] at q
    have f1 : i / 128 % 6 < 6 := Nat.mod_lt _ (by omega)
    have f2 : i / 64 % 2 ≤ 1 := by omega
    have f3 : i % 64 < 64 := Nat.mod_lt _ (by omega)
    rcases q with ⟨x, y⟩ | ⟨w, hw', to, x, y, z⟩
    · have := laI_b (T := thB F (E 383 3) (i / 128 % 6) (i / 768 + 1)) (gh := decide (E 383 (29 + s) = 5)) (nw := false) (day := i / 768 + 1) f1 f2 f3
      omega
    · have wv := wy w (by omega) (by omega)
      have := laI_b (T := thB F (E 383 3) to (i / 768 + (tkT (E 383) s w).toNat)) (gh := decide (E 383 (29 + s) = 5)) (nw := true) (day := i / 768 + (tkT (E 383) s w).toNat) (p := to) (by omega) f2 f3
      omega
  have all : ∀ i, Rc A Q i → i < 768 * (D + 1) ∧ g i = 1 := fun i h => h (fun i => i < 768 * (D + 1) ∧ g i = 1) (fun i x => by
    refine ⟨?_, i3 i x⟩
    obtain ⟨x1, x2⟩ := (aA i).mp x
    have := laI_b (T := thB F (E 383 3) b dy) (gh := gh) (nw := decide (0 < E 383 (37 + s))) (day := dy) (S := 0) b6 hkn (by omega)
    omega) (fun i j x q => ⟨Qb i j x.1 q, i4 i x.1 x.2 j q⟩)
  refine ⟨setR Et 393 g, M, Df, ⟨scr_u S1 (by omega) g, bR_c i5 (fun i => ⟨fun x => all i x, fun x => i2 i (by omega) x.2⟩)⟩, ?_⟩
  have he2 := he (some (.int (iI (if o = 0 then M else Df))), am_S0, dI (setR Et 393 g)) (fun v8 v9 v10 v11 v12 v13 => by
    rw [eX10_fame_142]
    simp (disch := first | omega | simp only [am_ci, am_cr, am_ca]) only [eX10_fame_144, eX10_fame_147, eX10_fame_148, eX10_fame_149, eX10_fame_150, eX10_fame_151, am_bi, Int.reduceEq, Int.reduceLT, Int.reduceLE, Int.reduceToNat, ite_self, Decidable.not_not, not_true_eq_false, not_false_eq_true, ↓reduceIte, am_ci, am_cr, am_ca, am_b0, am_b1, am_ts, am_tn, am_then_some, List.cons_append, List.nil_append, ne_eq, iI_lit, iI_add, iI_sub, iI_mul, iI_neg, iI_lt, iI_le, iI_eq, iI_in, iI_clz, dI_ap, dI_wr, setR_s, wE_R, setR_2, setR_n, setR_o, updI_s, updI_n, updI_2, tl_0, tl_1, tl_2, tl_3, tl_4, tl_5, tl_6, tl_7, tl_8, tl_9, tl_10, tl_11, tl_12, tl_13, tl_14, tl_15, tl_16, tn_3, tn_5, tn_13, tn_21, tn_29, tn_33, tn_37, tn_41, tn_45, tn_49, tn_53, tn_57, tn_61, tn_40, tn_p, tn_0, true_and, and_true, sk_0, sk_1, sk_2, sl_2, sk_3, sl_3, sk_4, sl_4, sk_5, sl_5, sk_6, sl_6, sk_7, sl_7, sk_8, sl_8, sk_9, sl_9, sk_10, sl_10, sk_11, sl_11, sk_12, sl_12, sk_13, sk_14, sl_14, sk_15, sk_40, sk_41, sl_41, sk_330, sl_330, sk_355, sk_356, sl_356, sk_357, sl_357, sk_358, sl_358, sk_359, sl_359, sk_360, sl_360, sk_361, sk_362, sl_362, sk_363, sk_376, sk_377, sl_377, sk_378, sk_379, sl_379, sk_380, sl_380, sk_381, sl_381, sk_382, sl_382, sk_383, sl_383, sk_384, sl_384, sk_385, sl_385, sk_386, sl_386, sk_387, sl_387, sk_388, sl_388, sk_389, sl_389, sk_390, sl_390, sk_391, sl_391, sk_392, sl_392, sk_393, sl_393, sk_394, sl_394, sr_0_0, sr_0_1, sr_0_2, sr_0_3, sr_0_4, sr_0_5, sr_0_6, sr_0_7, sr_0_8, sr_0_9, sr_1_0, sr_1_1, sr_1_2, sr_13_0, sr_15_0, sr_15_2, sr_40_0, sr_355_0, sr_355_1, sr_355_2, sr_355_3, sr_355_4, sr_355_5, sr_361_2, sr_361_5, sr_361_6, sr_363_0, sr_363_1, sr_376_0, sr_376_2, sr_378_0, sr_378_1, sr_378_2, sr_378_4, sr_378_8, sr_378_10, sr_378_11, sr_378_12, sr_378_14, sr_378_20, sr_378_21, sr_378_22, sr_378_23, sr_378_24, sr_378_25, sr_378_26, am_vs]
    simp (disch := first | omega | simp only [am_ci, am_cr, am_ca]) only [eX10_fame_354, eX10_fame_356, eX10_fame_359, eX10_fame_361, eX10_fame_364, eX10_fame_366, am_bi, Int.reduceEq, Int.reduceLT, Int.reduceLE, Int.reduceToNat, ite_self, Decidable.not_not, not_true_eq_false, not_false_eq_true, ↓reduceIte, am_ci, am_cr, am_ca, am_b0, am_b1, am_ts, am_tn, am_then_some, List.cons_append, List.nil_append, ne_eq, iI_lit, iI_add, iI_sub, iI_mul, iI_neg, iI_lt, iI_le, iI_eq, iI_in, iI_clz, dI_ap, dI_wr, setR_s, wE_R, setR_2, setR_n, setR_o, updI_s, updI_n, updI_2, tl_0, tl_1, tl_2, tl_3, tl_4, tl_5, tl_6, tl_7, tl_8, tl_9, tl_10, tl_11, tl_12, tl_13, tl_14, tl_15, tl_16, tn_3, tn_5, tn_13, tn_21, tn_29, tn_33, tn_37, tn_41, tn_45, tn_49, tn_53, tn_57, tn_61, tn_40, tn_p, tn_0, true_and, and_true, sk_0, sk_1, sk_2, sl_2, sk_3, sl_3, sk_4, sl_4, sk_5, sl_5, sk_6, sl_6, sk_7, sl_7, sk_8, sl_8, sk_9, sl_9, sk_10, sl_10, sk_11, sl_11, sk_12, sl_12, sk_13, sk_14, sl_14, sk_15, sk_40, sk_41, sl_41, sk_330, sl_330, sk_355, sk_356, sl_356, sk_357, sl_357, sk_358, sl_358, sk_359, sl_359, sk_360, sl_360, sk_361, sk_362, sl_362, sk_363, sk_376, sk_377, sl_377, sk_378, sk_379, sl_379, sk_380, sl_380, sk_381, sl_381, sk_382, sl_382, sk_383, sl_383, sk_384, sl_384, sk_385, sl_385, sk_386, sl_386, sk_387, sl_387, sk_388, sl_388, sk_389, sl_389, sk_390, sl_390, sk_391, sl_391, sk_392, sl_392, sk_393, sl_393, sk_394, sl_394, sr_0_0, sr_0_1, sr_0_2, sr_0_3, sr_0_4, sr_0_5, sr_0_6, sr_0_7, sr_0_8, sr_0_9, sr_1_0, sr_1_1, sr_1_2, sr_13_0, sr_15_0, sr_15_2, sr_40_0, sr_355_0, sr_355_1, sr_355_2, sr_355_3, sr_355_4, sr_355_5, sr_361_2, sr_361_5, sr_361_6, sr_363_0, sr_363_1, sr_376_0, sr_376_2, sr_378_0, sr_378_1, sr_378_2, sr_378_4, sr_378_8, sr_378_10, sr_378_11, sr_378_12, sr_378_14, sr_378_20, sr_378_21, sr_378_22, sr_378_23, sr_378_24, sr_378_25, sr_378_26, am_vs]
    repeat (first | rw [if_pos (by omega)] | rw [if_neg (by omega)])
    all_goals ((repeat' split) <;> first | rfl | trivial | (exfalso; omega)))
  have HB := HBg (flT (Et 393) 0 23808)
  rw [oE _ 383 (by omega), e3] at HB
  rw [show (if 0 < E 383 (37 + s) then E 383 (37 + s) else E 383 3) = bgT (E 383) s from rfl] at HB
  have HS := HL (flT (Et 393) 0 23808) dy b ((E 383 (45 + s)).toNat / 2 ^ n % 2) 0 (decide (0 < E 383 (37 + s))) (by omega) b6 hkn (by omega)
  rw [show ((0 : Nat) : Int) = 0 from rfl] at HS
  have c37 := hb.1 (37 + s)
  have lp : am_ev (am_sem (d + 4)) 10 cX10_fame 53 [.ref 378, .int (iI s), .int (iI n), .int (iI D), .int (iI o), .int (iI 0), .retAddr 0, .retAddr 0, .retAddr 0, .retAddr 0, .retAddr 0, .retAddr 0, .retAddr 0, .retAddr 0] [] am_S0 (dI Et) (some (.int (iI (if o = 0 then M else Df))), am_S0, dI (setR Et 393 g)) := by
    have h0 := am_loop (P := fun k => am_ev (am_sem (d + 4)) 10 cX10_fame 53 [.ref 378, .int (iI s), .int (iI n), .int (iI D), .int (iI o), .int (iI k), .retAddr 0, .retAddr 0, .retAddr 0, .retAddr 0, .retAddr 0, .retAddr 0, .retAddr 0, .retAddr 0] [] am_S0 (dI (setR Et 393 (flT (Et 393) 0 k))) (some (.int (iI (if o = 0 then M else Df))), am_S0, dI (setR Et 393 g))) (n := 23808) ?_ ?_ (k := 0) (by omega)
    · rw [show flT (Et 393) 0 0 = Et 393 by funext i; unfold flT; rw [if_neg (by omega)], setR_e] at h0
      exact h0
    · intro k hk ih
      rw [← flT_s] at ih
      rw [show ((k + 1 : Nat) : Int) = (k : Int) + 1 by omega] at ih
      rw [eX10_fame_53]
      simp (disch := first | omega | simp only [am_ci, am_cr, am_ca]) only [eX10_fame_55, eX10_fame_58, eX10_fame_61, eX10_fame_62, eX10_fame_65, eX10_fame_67, eX10_fame_68, eX10_fame_69, eX10_fame_72, am_bi, Int.reduceEq, Int.reduceLT, Int.reduceLE, Int.reduceToNat, ite_self, Decidable.not_not, not_true_eq_false, not_false_eq_true, ↓reduceIte, am_ci, am_cr, am_ca, am_b0, am_b1, am_ts, am_tn, am_then_some, List.cons_append, List.nil_append, ne_eq, iI_lit, iI_add, iI_sub, iI_mul, iI_neg, iI_lt, iI_le, iI_eq, iI_in, iI_clz, dI_ap, dI_wr, setR_s, wE_R, setR_2, setR_n, setR_o, updI_s, updI_n, updI_2, tl_0, tl_1, tl_2, tl_3, tl_4, tl_5, tl_6, tl_7, tl_8, tl_9, tl_10, tl_11, tl_12, tl_13, tl_14, tl_15, tl_16, tn_3, tn_5, tn_13, tn_21, tn_29, tn_33, tn_37, tn_41, tn_45, tn_49, tn_53, tn_57, tn_61, tn_40, tn_p, tn_0, true_and, and_true, sk_0, sk_1, sk_2, sl_2, sk_3, sl_3, sk_4, sl_4, sk_5, sl_5, sk_6, sl_6, sk_7, sl_7, sk_8, sl_8, sk_9, sl_9, sk_10, sl_10, sk_11, sl_11, sk_12, sl_12, sk_13, sk_14, sl_14, sk_15, sk_40, sk_41, sl_41, sk_330, sl_330, sk_355, sk_356, sl_356, sk_357, sl_357, sk_358, sl_358, sk_359, sl_359, sk_360, sl_360, sk_361, sk_362, sl_362, sk_363, sk_376, sk_377, sl_377, sk_378, sk_379, sl_379, sk_380, sl_380, sk_381, sl_381, sk_382, sl_382, sk_383, sl_383, sk_384, sl_384, sk_385, sl_385, sk_386, sl_386, sk_387, sl_387, sk_388, sl_388, sk_389, sl_389, sk_390, sl_390, sk_391, sl_391, sk_392, sl_392, sk_393, sl_393, sk_394, sl_394, sr_0_0, sr_0_1, sr_0_2, sr_0_3, sr_0_4, sr_0_5, sr_0_6, sr_0_7, sr_0_8, sr_0_9, sr_1_0, sr_1_1, sr_1_2, sr_13_0, sr_15_0, sr_15_2, sr_40_0, sr_355_0, sr_355_1, sr_355_2, sr_355_3, sr_355_4, sr_355_5, sr_361_2, sr_361_5, sr_361_6, sr_363_0, sr_363_1, sr_376_0, sr_376_2, sr_378_0, sr_378_1, sr_378_2, sr_378_4, sr_378_8, sr_378_10, sr_378_11, sr_378_12, sr_378_14, sr_378_20, sr_378_21, sr_378_22, sr_378_23, sr_378_24, sr_378_25, sr_378_26, am_vs, setR_s, setR_2]
      repeat (first | rw [if_pos (by omega)] | rw [if_neg (by omega)])
      exact ⟨Or.inl trivial, ih⟩
    · have he3 := he2 (.retAddr 0) (.retAddr 0) (.retAddr 0) (.retAddr 0) (.retAddr 0) (.retAddr 0)
      rw [eX10_fame_53]
      by_cases c : 0 < E 383 (37 + s)
      · rw [if_pos (by simp [c])] at HS
        simp (disch := first | omega | simp only [am_ci, am_cr, am_ca]) only [eX10_fame_55, eX10_fame_58, eX10_fame_61, eX10_fame_62, eX10_fame_65, eX10_fame_67, eX10_fame_68, eX10_fame_69, eX10_fame_72, eX10_fame_75, eX10_fame_76, eX10_fame_77, eX10_fame_78, eX10_fame_79, eX10_fame_82, eX10_fame_83, eX10_fame_86, eX10_fame_87, eX10_fame_88, eX10_fame_89, eX10_fame_90, eX10_fame_91, eX10_fame_94, eX10_fame_96, eX10_fame_97, eX10_fame_98, eX10_fame_99, eX10_fame_100, eX10_fame_103, eX10_fame_105, eX10_fame_106, eX10_fame_107, eX10_fame_108, eX10_fame_109, eX10_fame_110, eX10_fame_111, eX10_fame_112, eX10_fame_113, eX10_fame_114, eX10_fame_117, eX10_fame_119, eX10_fame_120, eX10_fame_121, eX10_fame_122, eX10_fame_125, eX10_fame_126, eX10_fame_129, eX10_fame_130, eX10_fame_133, eX10_fame_134, eX10_fame_136, eX10_fame_137, eX10_fame_139, eX10_fame_140, am_bi, Int.reduceEq, Int.reduceLT, Int.reduceLE, Int.reduceToNat, ite_self, Decidable.not_not, not_true_eq_false, not_false_eq_true, ↓reduceIte, am_ci, am_cr, am_ca, am_b0, am_b1, am_ts, am_tn, am_then_some, List.cons_append, List.nil_append, ne_eq, iI_lit, iI_add, iI_sub, iI_mul, iI_neg, iI_lt, iI_le, iI_eq, iI_in, iI_clz, dI_ap, dI_wr, setR_s, wE_R, setR_2, setR_n, setR_o, updI_s, updI_n, updI_2, tl_0, tl_1, tl_2, tl_3, tl_4, tl_5, tl_6, tl_7, tl_8, tl_9, tl_10, tl_11, tl_12, tl_13, tl_14, tl_15, tl_16, tn_3, tn_5, tn_13, tn_21, tn_29, tn_33, tn_37, tn_41, tn_45, tn_49, tn_53, tn_57, tn_61, tn_40, tn_p, tn_0, true_and, and_true, sk_0, sk_1, sk_2, sl_2, sk_3, sl_3, sk_4, sl_4, sk_5, sl_5, sk_6, sl_6, sk_7, sl_7, sk_8, sl_8, sk_9, sl_9, sk_10, sl_10, sk_11, sl_11, sk_12, sl_12, sk_13, sk_14, sl_14, sk_15, sk_40, sk_41, sl_41, sk_330, sl_330, sk_355, sk_356, sl_356, sk_357, sl_357, sk_358, sl_358, sk_359, sl_359, sk_360, sl_360, sk_361, sk_362, sl_362, sk_363, sk_376, sk_377, sl_377, sk_378, sk_379, sl_379, sk_380, sl_380, sk_381, sl_381, sk_382, sl_382, sk_383, sl_383, sk_384, sl_384, sk_385, sl_385, sk_386, sl_386, sk_387, sl_387, sk_388, sl_388, sk_389, sl_389, sk_390, sl_390, sk_391, sl_391, sk_392, sl_392, sk_393, sl_393, sk_394, sl_394, sr_0_0, sr_0_1, sr_0_2, sr_0_3, sr_0_4, sr_0_5, sr_0_6, sr_0_7, sr_0_8, sr_0_9, sr_1_0, sr_1_1, sr_1_2, sr_13_0, sr_15_0, sr_15_2, sr_40_0, sr_355_0, sr_355_1, sr_355_2, sr_355_3, sr_355_4, sr_355_5, sr_361_2, sr_361_5, sr_361_6, sr_363_0, sr_363_1, sr_376_0, sr_376_2, sr_378_0, sr_378_1, sr_378_2, sr_378_4, sr_378_8, sr_378_10, sr_378_11, sr_378_12, sr_378_14, sr_378_20, sr_378_21, sr_378_22, sr_378_23, sr_378_24, sr_378_25, sr_378_26, am_vs, oE, e3, HB, hdy, hbb, iA, HS]
        repeat (first | rw [if_pos (by omega)] | rw [if_neg (by omega)])
        exact he3
      · rw [if_neg (by simp [c])] at HS
        simp (disch := first | omega | simp only [am_ci, am_cr, am_ca]) only [eX10_fame_55, eX10_fame_58, eX10_fame_61, eX10_fame_62, eX10_fame_65, eX10_fame_67, eX10_fame_68, eX10_fame_69, eX10_fame_72, eX10_fame_75, eX10_fame_76, eX10_fame_77, eX10_fame_78, eX10_fame_79, eX10_fame_82, eX10_fame_83, eX10_fame_86, eX10_fame_87, eX10_fame_88, eX10_fame_89, eX10_fame_90, eX10_fame_91, eX10_fame_94, eX10_fame_96, eX10_fame_97, eX10_fame_98, eX10_fame_99, eX10_fame_100, eX10_fame_103, eX10_fame_105, eX10_fame_106, eX10_fame_107, eX10_fame_108, eX10_fame_109, eX10_fame_110, eX10_fame_111, eX10_fame_112, eX10_fame_113, eX10_fame_114, eX10_fame_117, eX10_fame_119, eX10_fame_120, eX10_fame_121, eX10_fame_122, eX10_fame_125, eX10_fame_126, eX10_fame_129, eX10_fame_130, eX10_fame_133, eX10_fame_134, eX10_fame_136, eX10_fame_137, eX10_fame_139, eX10_fame_140, am_bi, Int.reduceEq, Int.reduceLT, Int.reduceLE, Int.reduceToNat, ite_self, Decidable.not_not, not_true_eq_false, not_false_eq_true, ↓reduceIte, am_ci, am_cr, am_ca, am_b0, am_b1, am_ts, am_tn, am_then_some, List.cons_append, List.nil_append, ne_eq, iI_lit, iI_add, iI_sub, iI_mul, iI_neg, iI_lt, iI_le, iI_eq, iI_in, iI_clz, dI_ap, dI_wr, setR_s, wE_R, setR_2, setR_n, setR_o, updI_s, updI_n, updI_2, tl_0, tl_1, tl_2, tl_3, tl_4, tl_5, tl_6, tl_7, tl_8, tl_9, tl_10, tl_11, tl_12, tl_13, tl_14, tl_15, tl_16, tn_3, tn_5, tn_13, tn_21, tn_29, tn_33, tn_37, tn_41, tn_45, tn_49, tn_53, tn_57, tn_61, tn_40, tn_p, tn_0, true_and, and_true, sk_0, sk_1, sk_2, sl_2, sk_3, sl_3, sk_4, sl_4, sk_5, sl_5, sk_6, sl_6, sk_7, sl_7, sk_8, sl_8, sk_9, sl_9, sk_10, sl_10, sk_11, sl_11, sk_12, sl_12, sk_13, sk_14, sl_14, sk_15, sk_40, sk_41, sl_41, sk_330, sl_330, sk_355, sk_356, sl_356, sk_357, sl_357, sk_358, sl_358, sk_359, sl_359, sk_360, sl_360, sk_361, sk_362, sl_362, sk_363, sk_376, sk_377, sl_377, sk_378, sk_379, sl_379, sk_380, sl_380, sk_381, sl_381, sk_382, sl_382, sk_383, sl_383, sk_384, sl_384, sk_385, sl_385, sk_386, sl_386, sk_387, sl_387, sk_388, sl_388, sk_389, sl_389, sk_390, sl_390, sk_391, sl_391, sk_392, sl_392, sk_393, sl_393, sk_394, sl_394, sr_0_0, sr_0_1, sr_0_2, sr_0_3, sr_0_4, sr_0_5, sr_0_6, sr_0_7, sr_0_8, sr_0_9, sr_1_0, sr_1_1, sr_1_2, sr_13_0, sr_15_0, sr_15_2, sr_40_0, sr_355_0, sr_355_1, sr_355_2, sr_355_3, sr_355_4, sr_355_5, sr_361_2, sr_361_5, sr_361_6, sr_363_0, sr_363_1, sr_376_0, sr_376_2, sr_378_0, sr_378_1, sr_378_2, sr_378_4, sr_378_8, sr_378_10, sr_378_11, sr_378_12, sr_378_14, sr_378_20, sr_378_21, sr_378_22, sr_378_23, sr_378_24, sr_378_25, sr_378_26, am_vs, oE, e3, HB, hdy, hbb, iA, HS]
        repeat (first | rw [if_pos (by omega)] | rw [if_neg (by omega)])
        exact he3
  have r0 : 0 ≤ (s : Int) ∧ (s : Int) < E 383 2 := by omega
  have r1 : 0 ≤ (n : Int) ∧ (n : Int) < E 383 4 := by omega
  refine mX10_fame rfl rfl ?_
  simp (disch := first | omega | simp only [am_ci, am_cr, am_ca]) only [eX10_fame_0, eX10_fame_1, eX10_fame_2, eX10_fame_5, eX10_fame_8, eX10_fame_9, eX10_fame_10, eX10_fame_13, eX10_fame_16, eX10_fame_17, eX10_fame_18, eX10_fame_19, eX10_fame_22, eX10_fame_25, eX10_fame_28, eX10_fame_30, eX10_fame_33, eX10_fame_36, eX10_fame_38, eX10_fame_39, eX10_fame_40, eX10_fame_41, eX10_fame_42, eX10_fame_43, eX10_fame_44, eX10_fame_47, eX10_fame_50, eX10_fame_51, am_bi, Int.reduceEq, Int.reduceLT, Int.reduceLE, Int.reduceToNat, ite_self, Decidable.not_not, not_true_eq_false, not_false_eq_true, ↓reduceIte, am_ci, am_cr, am_ca, am_b0, am_b1, am_ts, am_tn, am_then_some, List.cons_append, List.nil_append, ne_eq, iI_lit, iI_add, iI_sub, iI_mul, iI_neg, iI_lt, iI_le, iI_eq, iI_in, iI_clz, dI_ap, dI_wr, setR_s, wE_R, setR_2, setR_n, setR_o, updI_s, updI_n, updI_2, tl_0, tl_1, tl_2, tl_3, tl_4, tl_5, tl_6, tl_7, tl_8, tl_9, tl_10, tl_11, tl_12, tl_13, tl_14, tl_15, tl_16, tn_3, tn_5, tn_13, tn_21, tn_29, tn_33, tn_37, tn_41, tn_45, tn_49, tn_53, tn_57, tn_61, tn_40, tn_p, tn_0, true_and, and_true, sk_0, sk_1, sk_2, sl_2, sk_3, sl_3, sk_4, sl_4, sk_5, sl_5, sk_6, sl_6, sk_7, sl_7, sk_8, sl_8, sk_9, sl_9, sk_10, sl_10, sk_11, sl_11, sk_12, sl_12, sk_13, sk_14, sl_14, sk_15, sk_40, sk_41, sl_41, sk_330, sl_330, sk_355, sk_356, sl_356, sk_357, sl_357, sk_358, sl_358, sk_359, sl_359, sk_360, sl_360, sk_361, sk_362, sl_362, sk_363, sk_376, sk_377, sl_377, sk_378, sk_379, sl_379, sk_380, sl_380, sk_381, sl_381, sk_382, sl_382, sk_383, sl_383, sk_384, sl_384, sk_385, sl_385, sk_386, sl_386, sk_387, sl_387, sk_388, sl_388, sk_389, sl_389, sk_390, sl_390, sk_391, sl_391, sk_392, sl_392, sk_393, sl_393, sk_394, sl_394, sr_0_0, sr_0_1, sr_0_2, sr_0_3, sr_0_4, sr_0_5, sr_0_6, sr_0_7, sr_0_8, sr_0_9, sr_1_0, sr_1_1, sr_1_2, sr_13_0, sr_15_0, sr_15_2, sr_40_0, sr_355_0, sr_355_1, sr_355_2, sr_355_3, sr_355_4, sr_355_5, sr_361_2, sr_361_5, sr_361_6, sr_363_0, sr_363_1, sr_376_0, sr_376_2, sr_378_0, sr_378_1, sr_378_2, sr_378_4, sr_378_8, sr_378_10, sr_378_11, sr_378_12, sr_378_14, sr_378_20, sr_378_21, sr_378_22, sr_378_23, sr_378_24, sr_378_25, sr_378_26, am_vs, H0, r0, H1, r1, H2, ho, r_in, iL_i, iL_lit, iL_lt, i1, H3]
  repeat (first | rw [if_pos (by omega)] | rw [if_neg (by omega)])
  exact lp
