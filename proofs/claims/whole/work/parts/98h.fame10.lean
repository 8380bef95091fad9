/-! ===== fame: both ===== -/
section
variable {t : Nat → Int} {s n D W N : Nat}
theorem fa_b (hw : wT t) (hq : qT t) (hs : s < 4) (hs2 : (s : Int) < t 2) (hn : n < 4) (hD : D ≤ 30) (h99 : t 3 ≤ 99) (hW : t 1 = (W : Int)) (hN : t 0 = (N : Int)) {Dm : Nat → Nat → Int → Prop} {h : Nat → Int} (hV : Vl Dm N (t 3 + (D : Int)) h) (hst : ∀ p, p < N → faK t s n p ≤ t 3 + (D : Int) → h (6 * sB (faF t s n) 0 p (faK t s n p) + p) ≤ faK t s n p) (hcl : ∀ S, S < 2 ^ N → ∀ e, e < 6 → ∀ b c, QW t s W e b c → edg (faF t s n) (t 3 + (D : Int)) h S e b c) {i : Nat} (hi : faR t s n D W i) : (i / 768 ≤ D ∧ i / 128 % 6 < N) ∧ ((i / 64 % 2 = 1 → ∃ S'', S'' < 64 ∧ (i % 64) ||| S'' = S'' ∧ h (6 * S'' + i / 128 % 6) ≤ t 3 + ((i / 768 : Nat) : Int)) ∧ (i / 64 % 2 = 0 → i % 64 = 0)) := by
  have hb := hw.1.1
  have a0 := hb.2.1
  have a1 := hb.2.2.1
  have a3 := hb.2.2.2.2.1
  have h1 : w1T t := hq.1.2.2.1
  have wy := wyN_q hw hq
  have bp := (hb.2.2.2.2.2.2.2.1 s hs).2.1
  obtain ⟨c1, c2⟩ := cm_b hb h1 hs
  obtain ⟨p1, -⟩ := cm_p hb h1 s
  have sh := hq.2.2.1 s hs hs2
  have p64 : (2 : Nat) ^ N ≤ 64 := Nat.pow_le_pow_right (show 0 < 2 by omega) (show N ≤ 6 by omega)
  have b0 : ∀ p, p < N → ∀ v, sB (faF t s n) 0 p v < 64 := fun p hp v => by
    have := sB_lt (f := faF t s n) (S := 0) (v := v) (Nat.two_pow_pos N) hp
    omega
  -- who learns it where it is
  have lrn : ∀ p day : Nat, p < N → day ≤ D → ¬ bit (t (45 + s)) n → t (29 + s) ≠ 5 → cm0 t s p ≤ t 3 + (day : Int) → foD t (2 ^ s) n p ≤ t 3 + (day : Int) → ∃ S'', S'' < 64 ∧ 0 ||| S'' = S'' ∧ h (6 * S'' + p) ≤ t 3 + (day : Int) := by
    intro p day hp hd kb k5 hc hf
    have fK : faK t s n p ≤ t 3 + (day : Int) := by
      have v := fa_v (s := s) hw hq hn (show p < 6 by omega) (v := t 3 + (day : Int)) (by omega)
      unfold faK knC
      rw [if_neg k5, if_neg kb, if_pos (by omega)]
      split <;> omega
    have := hst p hp (by omega)
    exact ⟨sB (faF t s n) 0 p (faK t s n p), b0 p hp _, Nat.zero_or _, by omega⟩
  have res := fa_ind (n := n) (D := D) hw hs hW (fun day p kn S => (day ≤ D ∧ p < N) ∧ (kn = 1 → ∃ S'', S'' < 64 ∧ S ||| S'' = S'' ∧ h (6 * S'' + p) ≤ t 3 + (day : Int)) ∧ (kn = 0 → S = 0 ∧ cm0 t s p ≤ t 3 + (day : Int) ∧ ¬ bit (t (45 + s)) n)) ?_ ?_ ?_ hi
  · exact ⟨res.2.2.2.1, res.2.2.2.2.1, fun x => (res.2.2.2.2.2 x).1⟩
  · intro day kn' S' x1 x2 x3 x4 x5 x6
    have bN : (t (33 + s)).toNat < N := by have := sh.2.1; omega
    have cb : cm0 t s (t (33 + s)).toNat = t 3 + (day : Int) := by rw [c2]; omega
    refine ⟨⟨x2, bN⟩, fun y => ?_, fun y => ?_⟩
    · by_cases kb : bit (t (45 + s)) n
      · have k5 : t (29 + s) ≠ 5 := fun z => by
          have z2 := sh.2.2.2.1 z
          unfold bit at kb
          rw [z2] at kb
          simp at kb
        have fK : faK t s n (t (33 + s)).toNat = t 3 + (day : Int) := by
          unfold faK knC
          rw [if_neg k5, if_pos kb, if_pos rfl, cb]
        have st := hst _ bN (by omega)
        rw [fK] at st
        refine ⟨_, b0 _ bN _, ?_, st⟩
        rw [x6]
        split
        · rename_i c
          have cf := thB_f.mp c.2.2
          unfold sB
          rw [if_pos ((fa_v (s := s) hw hq hn (by omega) (by omega)).mpr (by omega))]
          exact Nat.or_self _
        · exact Nat.zero_or _
      · have z : ¬ ((t (45 + s)).toNat / 2 ^ n % 2 = 1) := kb
        rw [if_neg (fun c => z c.2.1)] at x6
        rw [x6]
        by_cases c : thB (foD t (2 ^ s) n) (t 3) (t (33 + s)).toNat day = true ∧ decide (t (29 + s) = 5) = false
        · exact lrn _ day bN x2 kb (decide_eq_false_iff_not.mp c.2) (by omega) (thB_t.mp c.1)
        · rw [if_neg c] at x5; omega
    · have kb : ¬ bit (t (45 + s)) n := fun z => by
        unfold bit at z
        rw [z] at x5
        split at x5 <;> omega
      refine ⟨?_, by omega, kb⟩
      rw [x6, if_neg (fun c => kb c.2.1)]
  · intro day p kn S kn' q1 q2 q3 q4 ⟨⟨i1, i2⟩, i3, i4⟩ x
    refine ⟨⟨q4, i2⟩, fun y => ?_, fun y => ?_⟩
    · by_cases k1 : kn = 1
      · obtain ⟨S'', y1, y2, y3⟩ := i3 k1
        exact ⟨S'', y1, y2, by omega⟩
      · obtain ⟨z1, z2, z3⟩ := i4 (by omega)
        by_cases c : thB (foD t (2 ^ s) n) (t 3) p (day + 1) = true ∧ decide (t (29 + s) = 5) = false
        · rw [z1]; exact lrn p (day + 1) i2 q4 z3 (decide_eq_false_iff_not.mp c.2) (by omega) (thB_t.mp c.1)
        · rw [if_neg c] at x; omega
    · have k0 : kn = 0 := by
        split at x <;> omega
      obtain ⟨z1, z2, z3⟩ := i4 k0
      exact ⟨z1, by omega, z3⟩
  · intro day p kn S w b kn' S' q1 q2 q3 q4 q5 q6 ⟨⟨i1, i2⟩, i3, i4⟩ x0 x y
    have wv := wy w (by omega) (by omega)
    have tk := tkT_b (t := t) (s := s) (w := w) (hb.2.2.2.2.2.2.1 w (by omega)).2.2
    have bN : b < N := by clear i3 i4 x y; omega
    have ec : ((day + (tkT t s w).toNat : Nat) : Int) = (day : Int) + tkT t s w := by clear i3 i4 x y; omega
    have qw : QW t s W p b (tkT t s w) := ⟨w, q4, q5, rfl⟩
    have cl : cm0 t s b ≤ cm0 t s p + tkT t s w := by
      have := p1 w (by omega)
      rcases q5 with ⟨u1, u2⟩ | ⟨u1, u2⟩
      · rw [← u1, ← u2]; exact this.1
      · rw [← u1, ← u2]; exact this.2
    refine ⟨⟨q6, bN⟩, fun z => ?_, fun z => ?_⟩
    · by_cases k1 : kn = 1
      · obtain ⟨S'', y1, y2, y3⟩ := i3 k1
        have SN : S'' < 2 ^ N := by
          rcases hV S'' p y1 q1 with u | ⟨-, -, u, -⟩
          · omega
          · exact u
        have ed := hcl S'' SN p q1 b _ qw (by omega)
        have s64 := sB_lt (f := faF t s n) (v := h (6 * S'' + p) + tkT t s w) SN bN
        refine ⟨sB (faF t s n) S'' b (h (6 * S'' + p) + tkT t s w), by clear i3 i4; omega, ?_, by rw [ec]; clear i3 i4; omega⟩
        rw [y]
        split
        · rename_i c
          have cf := thB_f.mp c.2
          unfold sB
          rw [if_pos ((fa_v (s := s) hw hq hn (by omega) (by omega)).mpr (by omega))]
          exact or_u y2
        · unfold sB
          split
          · exact or_v y2
          · exact y2
      · obtain ⟨z1, z2, z3⟩ := i4 (by omega)
        rw [if_neg (fun c => k1 c.1), z1] at y
        rw [y]
        by_cases c : thB (foD t (2 ^ s) n) (t 3) b (day + (tkT t s w).toNat) = true ∧ decide (t (29 + s) = 5) = false
        · exact lrn b _ bN q6 z3 (decide_eq_false_iff_not.mp c.2) (by omega) (thB_t.mp c.1)
        · rw [if_neg c] at x; omega
    · have k0 : kn = 0 := by
        split at x <;> omega
      obtain ⟨z1, z2, z3⟩ := i4 k0
      refine ⟨?_, by omega, z3⟩
      rw [y, if_neg (fun c => by omega), z1]
theorem bc_0 : bcF 64 0 = 0 := rfl
theorem fa_eq (hw : wT t) (hq : qT t) (hs : s < 4) (hs2 : (s : Int) < t 2) (hn : n < 4) (hD : D ≤ 30) (h99 : t 3 ≤ 99) (hW : t 1 = (W : Int)) (hN : t 0 = (N : Int)) {h : Nat → Int} (hV : Vl (faD t s n D W) N (t 3 + (D : Int)) h) (hst : ∀ p, p < N → faK t s n p ≤ t 3 + (D : Int) → h (6 * sB (faF t s n) 0 p (faK t s n p) + p) ≤ faK t s n p) (hcl : ∀ S, S < 2 ^ N → ∀ e, e < 6 → ∀ b c, QW t s W e b c → edg (faF t s n) (t 3 + (D : Int)) h S e b c) {M' D' M Df : Int} (hJ : bJ h (t 3 + (D : Int)) (t 3) (fun S p => S < 2 ^ N ∧ p < N) M' D') (hR : bR (faR t s n D W) M Df) : M' = M ∧ D' = Df := by
  have hb := hw.1.1
  have a0 := hb.2.1
  have p64 : (2 : Nat) ^ N ≤ 64 := Nat.pow_le_pow_right (show 0 < 2 by omega) (show N ≤ 6 by omega)
  -- from the table to the reference
  have A : ∀ S p, S < 2 ^ N ∧ p < N → h (6 * S + p) ≤ t 3 + (D : Int) → 0 < bcF 64 S → (bcF 64 S : Int) < M ∨ ((bcF 64 S : Int) = M ∧ Df ≤ h (6 * S + p) - t 3) := by
    intro S p hP hl hpos
    rcases hV S p (by omega) (by omega) with u | ⟨-, ⟨day, S', r, u1, u2, u3⟩, -⟩
    · omega
    · have m := bc_m S (by omega) S' u1 u3
      obtain ⟨d1, d2, d3, d4⟩ := cd_d (day := day) (p := p) (kn := 1) (by omega) (by omega) u1
      have := hR.2 _ r
      rw [d1, d4] at this
      omega
  -- and back
  have B : ∀ i, faR t s n D W i → 0 < bcF 64 (i % 64) → (bcF 64 (i % 64) : Int) < M' ∨ ((bcF 64 (i % 64) : Int) = M' ∧ D' ≤ ((i / 768 : Nat) : Int)) := by
    intro i hi hpos
    obtain ⟨⟨x1, x2⟩, x3, x4⟩ := fa_b hw hq hs hs2 hn hD h99 hW hN hV hst hcl hi
    by_cases k1 : i / 64 % 2 = 1
    · obtain ⟨S'', y1, y2, y3⟩ := x3 k1
      have SN : S'' < 2 ^ N := by
        rcases hV S'' (i / 128 % 6) y1 (by omega) with u | ⟨-, -, u, -⟩
        · omega
        · exact u
      have m := bc_m (i % 64) (by omega) S'' y1 y2
      have := hJ.2 S'' (i / 128 % 6) ⟨SN, x2⟩ (by omega) (by omega)
      omega
    · have z := x4 (by omega)
      rw [z, bc_0] at hpos
      omega
  rcases hJ.1 with ⟨j1, j2⟩ | ⟨S, p, j1, j2, j3, j4, j5⟩
  · rcases hR.1 with ⟨r1, r2⟩ | ⟨i, r1, r2, r3, r4⟩
    · omega
    · have := B i r1 r2
      omega
  · have a := A S p j1 j2 j3
    rcases hR.1 with ⟨r1, r2⟩ | ⟨i, r1, r2, r3, r4⟩
    · omega
    · have b := B i r1 r2
      omega
end
theorem p_fame {x y z o : Int} {E : Nat → Nat → Int} (hx : i32 x) (hy : i32 y) (hz : i32 z) (ho : i32 o) (hG : GG E) : pub 113 185 [.int (iI x), .int (iI y), .int (iI z), .int (iI o)] E := by
  obtain ⟨cc, hb⟩ := lg_cnt hG
  have a0 := hb.2.1
  have a1 := hb.2.2.1
  have a2 := hb.2.2.2.1
  have a4 := hb.2.2.2.2.2.1
  have H := q_isShip (d := 6) hG hx
  have H2 := q_isNews (d := 6) hG hy
  have HD : am_sem 7 92 [.int (iI z), .int (iI 0), .int (iI 30)] am_S0 (dI E) = _ := c_within (d := 6) (x := z) (y := 0) (z := 30) (S := am_S0) (D := dI E) hz (by omega) (by omega)
  have HO : am_sem 7 92 [.int (iI o), .int (iI 0), .int (iI 1)] am_S0 (dI E) = _ := c_within (d := 6) (x := o) (y := 0) (z := 1) (S := am_S0) (D := dI E) ho (by omega) (by omega)
  obtain ⟨w1, w2, w3, w4, w5, w6⟩ := gLg_w hG.2.2.2.1
  have z9 := hG.2.2.2.2.2.2.2.2
  by_cases h : (0 ≤ x ∧ x < E 383 2) ∧ (0 ≤ y ∧ y < E 383 4) ∧ (0 ≤ z ∧ z ≤ 30) ∧ 0 ≤ o ∧ o ≤ 1
  · have ot := oT_of hG (x := x) (Or.inr (Or.inr (Or.inl h.1)))
    have h1 := h.1
    have h2 := h.2.1
    have h3 := h.2.2.1
    have h4 := h.2.2.2
    obtain ⟨s, rfl⟩ := Int.eq_ofNat_of_zero_le h.1.1
    obtain ⟨n, rfl⟩ := Int.eq_ofNat_of_zero_le h.2.1.1
    obtain ⟨D, rfl⟩ := Int.eq_ofNat_of_zero_le h.2.2.1.1
    obtain ⟨N, hN⟩ := Int.eq_ofNat_of_zero_le a0.1
    obtain ⟨W, hW⟩ := Int.eq_ofNat_of_zero_le a1.1
    have h99 := ot.2.1
    obtain ⟨E1, h, ⟨o1, v1, v2, v3, v4⟩, HS⟩ := c_seek (d := 2) (s := s) (n := n) (N := N) (W := W) (dd := (D : Int)) (E := E) (t := E 383) (Dm := faD (E 383) s n D W) (fR_of hG ot) (by omega) h1.2 (by omega) (by omega) h99 hN hW (fun p hp x => fa_0 ot.1 ot.2.2 (by omega) h1.2 (by omega) (by omega) h99 hW (by omega) x) (fun S e b c v _ q x y => fa_s ot.1 ot.2.2 (by omega) (by omega) h99 hW q x y)
    have e3 : E1 383 = E 383 := o1 383 (by omega) (by omega) (by omega)
    obtain ⟨E2, M, Df, ⟨S, r⟩, R⟩ := r_fame (d := 3) (s := s) (n := n) (D := D) (o := o) (E := E1) (by rw [e3]; exact h1.2) (by rw [e3]; exact h2.2) (by omega) h4 (by rw [e3]; exact w1) (by rw [e3]; exact ot.2.2) (by rw [e3]; exact h99) (by rw [o1 389 (by omega) (by omega) (by omega)]; exact z9) (W := W) (by rw [e3]; exact hW)
    rw [e3] at r
    obtain ⟨q1, q2⟩ := fa_eq ot.1 ot.2.2 (by omega) h1.2 (by omega) (by omega) h99 hW hN v1 v2 v3 v4 r
    rw [← q1, ← q2] at R
    refine pub_w ?_ R (GG_scr hG (fun b hb => by rw [S.1 b (by omega), o1 b (by omega) (by omega) (by omega)]) S.2)
    have y01 : o = 0 ∨ o = 1 := by omega
    refine mX9_fame (d := 7) rfl rfl ?_
    rcases y01 with rfl | rfl
    · simp (disch := first | omega | simp only [am_ci, am_cr, am_ca]) only [eX9_fame_0, eX9_fame_1, eX9_fame_4, eX9_fame_5, eX9_fame_8, eX9_fame_11, eX9_fame_12, eX9_fame_15, eX9_fame_16, eX9_fame_19, eX9_fame_22, eX9_fame_24, eX9_fame_25, eX9_fame_26, eX9_fame_27, eX9_fame_29, eX9_fame_32, eX9_fame_35, eX9_fame_37, eX9_fame_38, eX9_fame_39, eX9_fame_42, eX9_fame_45, eX9_fame_47, eX9_fame_48, eX9_fame_49, eX9_fame_52, eX9_fame_53, eX9_fame_54, eX9_fame_55, eX9_fame_58, eX9_fame_60, eX9_fame_63, eX9_fame_64, eX9_fame_67, eX9_fame_70, eX9_fame_73, eX9_fame_74, eX9_fame_77, eX9_fame_80, am_bi, Int.reduceEq, Int.reduceLT, Int.reduceLE, Int.reduceToNat, ite_self, Decidable.not_not, not_true_eq_false, not_false_eq_true, ↓reduceIte, am_ci, am_cr, am_ca, am_b0, am_b1, am_ts, am_tn, am_then_some, List.cons_append, List.nil_append, ne_eq, iI_lit, iI_add, iI_sub, iI_mul, iI_neg, iI_lt, iI_le, iI_eq, iI_in, iI_clz, dI_ap, dI_wr, setR_s, wE_R, setR_2, setR_n, setR_o, updI_s, updI_n, updI_2, tl_0, tl_1, tl_2, tl_3, tl_4, tl_5, tl_6, tl_7, tl_8, tl_9, tl_10, tl_11, tl_12, tl_13, tl_14, tl_15, tl_16, tn_3, tn_5, tn_13, tn_21, tn_29, tn_33, tn_37, tn_41, tn_45, tn_49, tn_53, tn_57, tn_61, tn_40, tn_p, tn_0, true_and, and_true, sk_0, sk_1, sk_2, sl_2, sk_3, sl_3, sk_4, sl_4, sk_5, sl_5, sk_6, sl_6, sk_7, sl_7, sk_8, sl_8, sk_9, sl_9, sk_10, sl_10, sk_11, sl_11, sk_12, sl_12, sk_13, sk_14, sl_14, sk_15, sk_40, sk_41, sl_41, sk_330, sl_330, sk_355, sk_356, sl_356, sk_357, sl_357, sk_358, sl_358, sk_359, sl_359, sk_360, sl_360, sk_361, sk_362, sl_362, sk_363, sk_376, sk_377, sl_377, sk_378, sk_379, sl_379, sk_380, sl_380, sk_381, sl_381, sk_382, sl_382, sk_383, sl_383, sk_384, sl_384, sk_385, sl_385, sk_386, sl_386, sk_387, sl_387, sk_388, sl_388, sk_389, sl_389, sk_390, sl_390, sk_391, sl_391, sk_392, sl_392, sk_393, sl_393, sk_394, sl_394, sr_0_0, sr_0_1, sr_0_2, sr_0_3, sr_0_4, sr_0_5, sr_0_6, sr_0_7, sr_0_8, sr_0_9, sr_1_0, sr_1_1, sr_1_2, sr_13_0, sr_15_0, sr_15_2, sr_40_0, sr_355_0, sr_355_1, sr_355_2, sr_355_3, sr_355_4, sr_355_5, sr_361_2, sr_361_5, sr_361_6, sr_363_0, sr_363_1, sr_376_0, sr_376_2, sr_378_0, sr_378_1, sr_378_2, sr_378_4, sr_378_8, sr_378_10, sr_378_11, sr_378_12, sr_378_14, sr_378_20, sr_378_21, sr_378_22, sr_378_23, sr_378_24, sr_378_25, sr_378_26, am_vs, H, h1, H2, h2, am_lg28.k, HD, h3, HO, HS]
      all_goals ((repeat' split) <;> first | rfl | trivial | (exfalso; omega))
    · simp (disch := first | omega | simp only [am_ci, am_cr, am_ca]) only [eX9_fame_0, eX9_fame_1, eX9_fame_4, eX9_fame_5, eX9_fame_8, eX9_fame_11, eX9_fame_12, eX9_fame_15, eX9_fame_16, eX9_fame_19, eX9_fame_22, eX9_fame_24, eX9_fame_25, eX9_fame_26, eX9_fame_27, eX9_fame_29, eX9_fame_32, eX9_fame_35, eX9_fame_37, eX9_fame_38, eX9_fame_39, eX9_fame_42, eX9_fame_45, eX9_fame_47, eX9_fame_48, eX9_fame_49, eX9_fame_52, eX9_fame_53, eX9_fame_54, eX9_fame_55, eX9_fame_58, eX9_fame_60, eX9_fame_63, eX9_fame_64, eX9_fame_67, eX9_fame_70, eX9_fame_73, eX9_fame_74, eX9_fame_77, eX9_fame_80, am_bi, Int.reduceEq, Int.reduceLT, Int.reduceLE, Int.reduceToNat, ite_self, Decidable.not_not, not_true_eq_false, not_false_eq_true, ↓reduceIte, am_ci, am_cr, am_ca, am_b0, am_b1, am_ts, am_tn, am_then_some, List.cons_append, List.nil_append, ne_eq, iI_lit, iI_add, iI_sub, iI_mul, iI_neg, iI_lt, iI_le, iI_eq, iI_in, iI_clz, dI_ap, dI_wr, setR_s, wE_R, setR_2, setR_n, setR_o, updI_s, updI_n, updI_2, tl_0, tl_1, tl_2, tl_3, tl_4, tl_5, tl_6, tl_7, tl_8, tl_9, tl_10, tl_11, tl_12, tl_13, tl_14, tl_15, tl_16, tn_3, tn_5, tn_13, tn_21, tn_29, tn_33, tn_37, tn_41, tn_45, tn_49, tn_53, tn_57, tn_61, tn_40, tn_p, tn_0, true_and, and_true, sk_0, sk_1, sk_2, sl_2, sk_3, sl_3, sk_4, sl_4, sk_5, sl_5, sk_6, sl_6, sk_7, sl_7, sk_8, sl_8, sk_9, sl_9, sk_10, sl_10, sk_11, sl_11, sk_12, sl_12, sk_13, sk_14, sl_14, sk_15, sk_40, sk_41, sl_41, sk_330, sl_330, sk_355, sk_356, sl_356, sk_357, sl_357, sk_358, sl_358, sk_359, sl_359, sk_360, sl_360, sk_361, sk_362, sl_362, sk_363, sk_376, sk_377, sl_377, sk_378, sk_379, sl_379, sk_380, sl_380, sk_381, sl_381, sk_382, sl_382, sk_383, sl_383, sk_384, sl_384, sk_385, sl_385, sk_386, sl_386, sk_387, sl_387, sk_388, sl_388, sk_389, sl_389, sk_390, sl_390, sk_391, sl_391, sk_392, sl_392, sk_393, sl_393, sk_394, sl_394, sr_0_0, sr_0_1, sr_0_2, sr_0_3, sr_0_4, sr_0_5, sr_0_6, sr_0_7, sr_0_8, sr_0_9, sr_1_0, sr_1_1, sr_1_2, sr_13_0, sr_15_0, sr_15_2, sr_40_0, sr_355_0, sr_355_1, sr_355_2, sr_355_3, sr_355_4, sr_355_5, sr_361_2, sr_361_5, sr_361_6, sr_363_0, sr_363_1, sr_376_0, sr_376_2, sr_378_0, sr_378_1, sr_378_2, sr_378_4, sr_378_8, sr_378_10, sr_378_11, sr_378_12, sr_378_14, sr_378_20, sr_378_21, sr_378_22, sr_378_23, sr_378_24, sr_378_25, sr_378_26, am_vs, H, h1, H2, h2, am_lg28.k, HD, h3, HO, HS]
      all_goals ((repeat' split) <;> first | rfl | trivial | (exfalso; omega))
  · have hv := hb.1
    have G0 := r_isShip (d := 5) (E := E) hx hv
    have G1 := r_isNews (d := 5) (E := E) hy hv
    have G2 := r_isTwo (d := 5) (E := E) ho
    have R : am_sem 8 185 [.ref 378, .int (iI x), .int (iI y), .int (iI z), .int (iI o)] am_S0 (dI E) = some (some (.int (iI (-1000001))), am_S0, dI E) := by
      refine mX10_fame (d := 7) rfl rfl ?_
      by_cases h1 : 0 ≤ x ∧ x < E 383 2
      · by_cases h2 : 0 ≤ y ∧ y < E 383 4
        · by_cases h3 : 0 ≤ z ∧ z ≤ 30
          · have h4 : ¬ (0 ≤ o ∧ o ≤ 1) := fun hh => h ⟨h1, h2, h3, hh⟩
            simp (disch := first | omega | simp only [am_ci, am_cr, am_ca]) only [eX10_fame_0, eX10_fame_1, eX10_fame_2, eX10_fame_5, eX10_fame_8, eX10_fame_9, eX10_fame_10, eX10_fame_13, eX10_fame_16, eX10_fame_17, eX10_fame_18, eX10_fame_19, eX10_fame_22, eX10_fame_25, eX10_fame_28, eX10_fame_30, eX10_fame_33, eX10_fame_36, eX10_fame_38, am_bi, Int.reduceEq, Int.reduceLT, Int.reduceLE, Int.reduceToNat, ite_self, Decidable.not_not, not_true_eq_false, not_false_eq_true, ↓reduceIte, am_ci, am_cr, am_ca, am_b0, am_b1, am_ts, am_tn, am_then_some, List.cons_append, List.nil_append, ne_eq, iI_lit, iI_add, iI_sub, iI_mul, iI_neg, iI_lt, iI_le, iI_eq, iI_in, iI_clz, dI_ap, dI_wr, setR_s, wE_R, setR_2, setR_n, setR_o, updI_s, updI_n, updI_2, tl_0, tl_1, tl_2, tl_3, tl_4, tl_5, tl_6, tl_7, tl_8, tl_9, tl_10, tl_11, tl_12, tl_13, tl_14, tl_15, tl_16, tn_3, tn_5, tn_13, tn_21, tn_29, tn_33, tn_37, tn_41, tn_45, tn_49, tn_53, tn_57, tn_61, tn_40, tn_p, tn_0, true_and, and_true, sk_0, sk_1, sk_2, sl_2, sk_3, sl_3, sk_4, sl_4, sk_5, sl_5, sk_6, sl_6, sk_7, sl_7, sk_8, sl_8, sk_9, sl_9, sk_10, sl_10, sk_11, sl_11, sk_12, sl_12, sk_13, sk_14, sl_14, sk_15, sk_40, sk_41, sl_41, sk_330, sl_330, sk_355, sk_356, sl_356, sk_357, sl_357, sk_358, sl_358, sk_359, sl_359, sk_360, sl_360, sk_361, sk_362, sl_362, sk_363, sk_376, sk_377, sl_377, sk_378, sk_379, sl_379, sk_380, sl_380, sk_381, sl_381, sk_382, sl_382, sk_383, sl_383, sk_384, sl_384, sk_385, sl_385, sk_386, sl_386, sk_387, sl_387, sk_388, sl_388, sk_389, sl_389, sk_390, sl_390, sk_391, sl_391, sk_392, sl_392, sk_393, sl_393, sk_394, sl_394, sr_0_0, sr_0_1, sr_0_2, sr_0_3, sr_0_4, sr_0_5, sr_0_6, sr_0_7, sr_0_8, sr_0_9, sr_1_0, sr_1_1, sr_1_2, sr_13_0, sr_15_0, sr_15_2, sr_40_0, sr_355_0, sr_355_1, sr_355_2, sr_355_3, sr_355_4, sr_355_5, sr_361_2, sr_361_5, sr_361_6, sr_363_0, sr_363_1, sr_376_0, sr_376_2, sr_378_0, sr_378_1, sr_378_2, sr_378_4, sr_378_8, sr_378_10, sr_378_11, sr_378_12, sr_378_14, sr_378_20, sr_378_21, sr_378_22, sr_378_23, sr_378_24, sr_378_25, sr_378_26, am_vs, G0, h1, G1, h2, r_in, iL_i, iL_lit, iL_lt, h3, G2, h4]
            all_goals ((repeat' split) <;> first | rfl | trivial | (exfalso; omega))
          · simp (disch := first | omega | simp only [am_ci, am_cr, am_ca]) only [eX10_fame_0, eX10_fame_1, eX10_fame_2, eX10_fame_5, eX10_fame_8, eX10_fame_9, eX10_fame_10, eX10_fame_13, eX10_fame_16, eX10_fame_17, eX10_fame_18, eX10_fame_19, eX10_fame_22, eX10_fame_25, eX10_fame_28, eX10_fame_30, eX10_fame_33, eX10_fame_36, eX10_fame_38, am_bi, Int.reduceEq, Int.reduceLT, Int.reduceLE, Int.reduceToNat, ite_self, Decidable.not_not, not_true_eq_false, not_false_eq_true, ↓reduceIte, am_ci, am_cr, am_ca, am_b0, am_b1, am_ts, am_tn, am_then_some, List.cons_append, List.nil_append, ne_eq, iI_lit, iI_add, iI_sub, iI_mul, iI_neg, iI_lt, iI_le, iI_eq, iI_in, iI_clz, dI_ap, dI_wr, setR_s, wE_R, setR_2, setR_n, setR_o, updI_s, updI_n, updI_2, tl_0, tl_1, tl_2, tl_3, tl_4, tl_5, tl_6, tl_7, tl_8, tl_9, tl_10, tl_11, tl_12, tl_13, tl_14, tl_15, tl_16, tn_3, tn_5, tn_13, tn_21, tn_29, tn_33, tn_37, tn_41, tn_45, tn_49, tn_53, tn_57, tn_61, tn_40, tn_p, tn_0, true_and, and_true, sk_0, sk_1, sk_2, sl_2, sk_3, sl_3, sk_4, sl_4, sk_5, sl_5, sk_6, sl_6, sk_7, sl_7, sk_8, sl_8, sk_9, sl_9, sk_10, sl_10, sk_11, sl_11, sk_12, sl_12, sk_13, sk_14, sl_14, sk_15, sk_40, sk_41, sl_41, sk_330, sl_330, sk_355, sk_356, sl_356, sk_357, sl_357, sk_358, sl_358, sk_359, sl_359, sk_360, sl_360, sk_361, sk_362, sl_362, sk_363, sk_376, sk_377, sl_377, sk_378, sk_379, sl_379, sk_380, sl_380, sk_381, sl_381, sk_382, sl_382, sk_383, sl_383, sk_384, sl_384, sk_385, sl_385, sk_386, sl_386, sk_387, sl_387, sk_388, sl_388, sk_389, sl_389, sk_390, sl_390, sk_391, sl_391, sk_392, sl_392, sk_393, sl_393, sk_394, sl_394, sr_0_0, sr_0_1, sr_0_2, sr_0_3, sr_0_4, sr_0_5, sr_0_6, sr_0_7, sr_0_8, sr_0_9, sr_1_0, sr_1_1, sr_1_2, sr_13_0, sr_15_0, sr_15_2, sr_40_0, sr_355_0, sr_355_1, sr_355_2, sr_355_3, sr_355_4, sr_355_5, sr_361_2, sr_361_5, sr_361_6, sr_363_0, sr_363_1, sr_376_0, sr_376_2, sr_378_0, sr_378_1, sr_378_2, sr_378_4, sr_378_8, sr_378_10, sr_378_11, sr_378_12, sr_378_14, sr_378_20, sr_378_21, sr_378_22, sr_378_23, sr_378_24, sr_378_25, sr_378_26, am_vs, G0, h1, G1, h2, r_in, iL_i, iL_lit, iL_lt, h3]
            all_goals ((repeat' split) <;> first | rfl | trivial | (exfalso; omega))
        · simp (disch := first | omega | simp only [am_ci, am_cr, am_ca]) only [eX10_fame_0, eX10_fame_1, eX10_fame_2, eX10_fame_5, eX10_fame_8, eX10_fame_9, eX10_fame_10, eX10_fame_13, eX10_fame_16, eX10_fame_17, eX10_fame_18, eX10_fame_19, eX10_fame_22, eX10_fame_25, eX10_fame_28, eX10_fame_30, eX10_fame_33, eX10_fame_36, eX10_fame_38, am_bi, Int.reduceEq, Int.reduceLT, Int.reduceLE, Int.reduceToNat, ite_self, Decidable.not_not, not_true_eq_false, not_false_eq_true, ↓reduceIte, am_ci, am_cr, am_ca, am_b0, am_b1, am_ts, am_tn, am_then_some, List.cons_append, List.nil_append, ne_eq, iI_lit, iI_add, iI_sub, iI_mul, iI_neg, iI_lt, iI_le, iI_eq, iI_in, iI_clz, dI_ap, dI_wr, setR_s, wE_R, setR_2, setR_n, setR_o, updI_s, updI_n, updI_2, tl_0, tl_1, tl_2, tl_3, tl_4, tl_5, tl_6, tl_7, tl_8, tl_9, tl_10, tl_11, tl_12, tl_13, tl_14, tl_15, tl_16, tn_3, tn_5, tn_13, tn_21, tn_29, tn_33, tn_37, tn_41, tn_45, tn_49, tn_53, tn_57, tn_61, tn_40, tn_p, tn_0, true_and, and_true, sk_0, sk_1, sk_2, sl_2, sk_3, sl_3, sk_4, sl_4, sk_5, sl_5, sk_6, sl_6, sk_7, sl_7, sk_8, sl_8, sk_9, sl_9, sk_10, sl_10, sk_11, sl_11, sk_12, sl_12, sk_13, sk_14, sl_14, sk_15, sk_40, sk_41, sl_41, sk_330, sl_330, sk_355, sk_356, sl_356, sk_357, sl_357, sk_358, sl_358, sk_359, sl_359, sk_360, sl_360, sk_361, sk_362, sl_362, sk_363, sk_376, sk_377, sl_377, sk_378, sk_379, sl_379, sk_380, sl_380, sk_381, sl_381, sk_382, sl_382, sk_383, sl_383, sk_384, sl_384, sk_385, sl_385, sk_386, sl_386, sk_387, sl_387, sk_388, sl_388, sk_389, sl_389, sk_390, sl_390, sk_391, sl_391, sk_392, sl_392, sk_393, sl_393, sk_394, sl_394, sr_0_0, sr_0_1, sr_0_2, sr_0_3, sr_0_4, sr_0_5, sr_0_6, sr_0_7, sr_0_8, sr_0_9, sr_1_0, sr_1_1, sr_1_2, sr_13_0, sr_15_0, sr_15_2, sr_40_0, sr_355_0, sr_355_1, sr_355_2, sr_355_3, sr_355_4, sr_355_5, sr_361_2, sr_361_5, sr_361_6, sr_363_0, sr_363_1, sr_376_0, sr_376_2, sr_378_0, sr_378_1, sr_378_2, sr_378_4, sr_378_8, sr_378_10, sr_378_11, sr_378_12, sr_378_14, sr_378_20, sr_378_21, sr_378_22, sr_378_23, sr_378_24, sr_378_25, sr_378_26, am_vs, G0, h1, G1, h2]
      · simp (disch := first | omega | simp only [am_ci, am_cr, am_ca]) only [eX10_fame_0, eX10_fame_1, eX10_fame_2, eX10_fame_5, eX10_fame_8, eX10_fame_9, eX10_fame_10, eX10_fame_13, eX10_fame_16, eX10_fame_17, eX10_fame_18, eX10_fame_19, eX10_fame_22, eX10_fame_25, eX10_fame_28, eX10_fame_30, eX10_fame_33, eX10_fame_36, eX10_fame_38, am_bi, Int.reduceEq, Int.reduceLT, Int.reduceLE, Int.reduceToNat, ite_self, Decidable.not_not, not_true_eq_false, not_false_eq_true, ↓reduceIte, am_ci, am_cr, am_ca, am_b0, am_b1, am_ts, am_tn, am_then_some, List.cons_append, List.nil_append, ne_eq, iI_lit, iI_add, iI_sub, iI_mul, iI_neg, iI_lt, iI_le, iI_eq, iI_in, iI_clz, dI_ap, dI_wr, setR_s, wE_R, setR_2, setR_n, setR_o, updI_s, updI_n, updI_2, tl_0, tl_1, tl_2, tl_3, tl_4, tl_5, tl_6, tl_7, tl_8, tl_9, tl_10, tl_11, tl_12, tl_13, tl_14, tl_15, tl_16, tn_3, tn_5, tn_13, tn_21, tn_29, tn_33, tn_37, tn_41, tn_45, tn_49, tn_53, tn_57, tn_61, tn_40, tn_p, tn_0, true_and, and_true, sk_0, sk_1, sk_2, sl_2, sk_3, sl_3, sk_4, sl_4, sk_5, sl_5, sk_6, sl_6, sk_7, sl_7, sk_8, sl_8, sk_9, sl_9, sk_10, sl_10, sk_11, sl_11, sk_12, sl_12, sk_13, sk_14, sl_14, sk_15, sk_40, sk_41, sl_41, sk_330, sl_330, sk_355, sk_356, sl_356, sk_357, sl_357, sk_358, sl_358, sk_359, sl_359, sk_360, sl_360, sk_361, sk_362, sl_362, sk_363, sk_376, sk_377, sl_377, sk_378, sk_379, sl_379, sk_380, sl_380, sk_381, sl_381, sk_382, sl_382, sk_383, sl_383, sk_384, sl_384, sk_385, sl_385, sk_386, sl_386, sk_387, sl_387, sk_388, sl_388, sk_389, sl_389, sk_390, sl_390, sk_391, sl_391, sk_392, sl_392, sk_393, sl_393, sk_394, sl_394, sr_0_0, sr_0_1, sr_0_2, sr_0_3, sr_0_4, sr_0_5, sr_0_6, sr_0_7, sr_0_8, sr_0_9, sr_1_0, sr_1_1, sr_1_2, sr_13_0, sr_15_0, sr_15_2, sr_40_0, sr_355_0, sr_355_1, sr_355_2, sr_355_3, sr_355_4, sr_355_5, sr_361_2, sr_361_5, sr_361_6, sr_363_0, sr_363_1, sr_376_0, sr_376_2, sr_378_0, sr_378_1, sr_378_2, sr_378_4, sr_378_8, sr_378_10, sr_378_11, sr_378_12, sr_378_14, sr_378_20, sr_378_21, sr_378_22, sr_378_23, sr_378_24, sr_378_25, sr_378_26, am_vs, G0, h1]
    refine pub_r hG ?_ R
    refine mX9_fame (d := 7) rfl rfl ?_
    by_cases h1 : 0 ≤ x ∧ x < E 383 2
    · by_cases h2 : 0 ≤ y ∧ y < E 383 4
      · by_cases h3 : 0 ≤ z ∧ z ≤ 30
        · have h4 : ¬ (0 ≤ o ∧ o ≤ 1) := fun hh => h ⟨h1, h2, h3, hh⟩
          simp (disch := first | omega | simp only [am_ci, am_cr, am_ca]) only [eX9_fame_0, eX9_fame_1, eX9_fame_4, eX9_fame_5, eX9_fame_8, eX9_fame_11, eX9_fame_12, eX9_fame_15, eX9_fame_16, eX9_fame_19, eX9_fame_22, eX9_fame_24, eX9_fame_25, eX9_fame_26, eX9_fame_27, eX9_fame_29, eX9_fame_32, eX9_fame_35, eX9_fame_37, eX9_fame_38, eX9_fame_39, eX9_fame_42, eX9_fame_45, eX9_fame_47, eX9_fame_48, eX9_fame_49, eX9_fame_52, eX9_fame_53, eX9_fame_54, eX9_fame_55, eX9_fame_58, eX9_fame_60, eX9_fame_63, eX9_fame_64, eX9_fame_67, eX9_fame_70, eX9_fame_73, eX9_fame_74, eX9_fame_77, eX9_fame_80, am_bi, Int.reduceEq, Int.reduceLT, Int.reduceLE, Int.reduceToNat, ite_self, Decidable.not_not, not_true_eq_false, not_false_eq_true, ↓reduceIte, am_ci, am_cr, am_ca, am_b0, am_b1, am_ts, am_tn, am_then_some, List.cons_append, List.nil_append, ne_eq, iI_lit, iI_add, iI_sub, iI_mul, iI_neg, iI_lt, iI_le, iI_eq, iI_in, iI_clz, dI_ap, dI_wr, setR_s, wE_R, setR_2, setR_n, setR_o, updI_s, updI_n, updI_2, tl_0, tl_1, tl_2, tl_3, tl_4, tl_5, tl_6, tl_7, tl_8, tl_9, tl_10, tl_11, tl_12, tl_13, tl_14, tl_15, tl_16, tn_3, tn_5, tn_13, tn_21, tn_29, tn_33, tn_37, tn_41, tn_45, tn_49, tn_53, tn_57, tn_61, tn_40, tn_p, tn_0, true_and, and_true, sk_0, sk_1, sk_2, sl_2, sk_3, sl_3, sk_4, sl_4, sk_5, sl_5, sk_6, sl_6, sk_7, sl_7, sk_8, sl_8, sk_9, sl_9, sk_10, sl_10, sk_11, sl_11, sk_12, sl_12, sk_13, sk_14, sl_14, sk_15, sk_40, sk_41, sl_41, sk_330, sl_330, sk_355, sk_356, sl_356, sk_357, sl_357, sk_358, sl_358, sk_359, sl_359, sk_360, sl_360, sk_361, sk_362, sl_362, sk_363, sk_376, sk_377, sl_377, sk_378, sk_379, sl_379, sk_380, sl_380, sk_381, sl_381, sk_382, sl_382, sk_383, sl_383, sk_384, sl_384, sk_385, sl_385, sk_386, sl_386, sk_387, sl_387, sk_388, sl_388, sk_389, sl_389, sk_390, sl_390, sk_391, sl_391, sk_392, sl_392, sk_393, sl_393, sk_394, sl_394, sr_0_0, sr_0_1, sr_0_2, sr_0_3, sr_0_4, sr_0_5, sr_0_6, sr_0_7, sr_0_8, sr_0_9, sr_1_0, sr_1_1, sr_1_2, sr_13_0, sr_15_0, sr_15_2, sr_40_0, sr_355_0, sr_355_1, sr_355_2, sr_355_3, sr_355_4, sr_355_5, sr_361_2, sr_361_5, sr_361_6, sr_363_0, sr_363_1, sr_376_0, sr_376_2, sr_378_0, sr_378_1, sr_378_2, sr_378_4, sr_378_8, sr_378_10, sr_378_11, sr_378_12, sr_378_14, sr_378_20, sr_378_21, sr_378_22, sr_378_23, sr_378_24, sr_378_25, sr_378_26, am_vs, H, h1, H2, h2, am_lg28.k, HD, h3, HO, h4]
        · simp (disch := first | omega | simp only [am_ci, am_cr, am_ca]) only [eX9_fame_0, eX9_fame_1, eX9_fame_4, eX9_fame_5, eX9_fame_8, eX9_fame_11, eX9_fame_12, eX9_fame_15, eX9_fame_16, eX9_fame_19, eX9_fame_22, eX9_fame_24, eX9_fame_25, eX9_fame_26, eX9_fame_27, eX9_fame_29, eX9_fame_32, eX9_fame_35, eX9_fame_37, eX9_fame_38, eX9_fame_39, eX9_fame_42, eX9_fame_45, eX9_fame_47, eX9_fame_48, eX9_fame_49, eX9_fame_52, eX9_fame_53, eX9_fame_54, eX9_fame_55, eX9_fame_58, eX9_fame_60, eX9_fame_63, eX9_fame_64, eX9_fame_67, eX9_fame_70, eX9_fame_73, eX9_fame_74, eX9_fame_77, eX9_fame_80, am_bi, Int.reduceEq, Int.reduceLT, Int.reduceLE, Int.reduceToNat, ite_self, Decidable.not_not, not_true_eq_false, not_false_eq_true, ↓reduceIte, am_ci, am_cr, am_ca, am_b0, am_b1, am_ts, am_tn, am_then_some, List.cons_append, List.nil_append, ne_eq, iI_lit, iI_add, iI_sub, iI_mul, iI_neg, iI_lt, iI_le, iI_eq, iI_in, iI_clz, dI_ap, dI_wr, setR_s, wE_R, setR_2, setR_n, setR_o, updI_s, updI_n, updI_2, tl_0, tl_1, tl_2, tl_3, tl_4, tl_5, tl_6, tl_7, tl_8, tl_9, tl_10, tl_11, tl_12, tl_13, tl_14, tl_15, tl_16, tn_3, tn_5, tn_13, tn_21, tn_29, tn_33, tn_37, tn_41, tn_45, tn_49, tn_53, tn_57, tn_61, tn_40, tn_p, tn_0, true_and, and_true, sk_0, sk_1, sk_2, sl_2, sk_3, sl_3, sk_4, sl_4, sk_5, sl_5, sk_6, sl_6, sk_7, sl_7, sk_8, sl_8, sk_9, sl_9, sk_10, sl_10, sk_11, sl_11, sk_12, sl_12, sk_13, sk_14, sl_14, sk_15, sk_40, sk_41, sl_41, sk_330, sl_330, sk_355, sk_356, sl_356, sk_357, sl_357, sk_358, sl_358, sk_359, sl_359, sk_360, sl_360, sk_361, sk_362, sl_362, sk_363, sk_376, sk_377, sl_377, sk_378, sk_379, sl_379, sk_380, sl_380, sk_381, sl_381, sk_382, sl_382, sk_383, sl_383, sk_384, sl_384, sk_385, sl_385, sk_386, sl_386, sk_387, sl_387, sk_388, sl_388, sk_389, sl_389, sk_390, sl_390, sk_391, sl_391, sk_392, sl_392, sk_393, sl_393, sk_394, sl_394, sr_0_0, sr_0_1, sr_0_2, sr_0_3, sr_0_4, sr_0_5, sr_0_6, sr_0_7, sr_0_8, sr_0_9, sr_1_0, sr_1_1, sr_1_2, sr_13_0, sr_15_0, sr_15_2, sr_40_0, sr_355_0, sr_355_1, sr_355_2, sr_355_3, sr_355_4, sr_355_5, sr_361_2, sr_361_5, sr_361_6, sr_363_0, sr_363_1, sr_376_0, sr_376_2, sr_378_0, sr_378_1, sr_378_2, sr_378_4, sr_378_8, sr_378_10, sr_378_11, sr_378_12, sr_378_14, sr_378_20, sr_378_21, sr_378_22, sr_378_23, sr_378_24, sr_378_25, sr_378_26, am_vs, H, h1, H2, h2, am_lg28.k, HD, h3]
      · simp (disch := first | omega | simp only [am_ci, am_cr, am_ca]) only [eX9_fame_0, eX9_fame_1, eX9_fame_4, eX9_fame_5, eX9_fame_8, eX9_fame_11, eX9_fame_12, eX9_fame_15, eX9_fame_16, eX9_fame_19, eX9_fame_22, eX9_fame_24, eX9_fame_25, eX9_fame_26, eX9_fame_27, eX9_fame_29, eX9_fame_32, eX9_fame_35, eX9_fame_37, eX9_fame_38, eX9_fame_39, eX9_fame_42, eX9_fame_45, eX9_fame_47, eX9_fame_48, eX9_fame_49, eX9_fame_52, eX9_fame_53, eX9_fame_54, eX9_fame_55, eX9_fame_58, eX9_fame_60, eX9_fame_63, eX9_fame_64, eX9_fame_67, eX9_fame_70, eX9_fame_73, eX9_fame_74, eX9_fame_77, eX9_fame_80, am_bi, Int.reduceEq, Int.reduceLT, Int.reduceLE, Int.reduceToNat, ite_self, Decidable.not_not, not_true_eq_false, not_false_eq_true, ↓reduceIte, am_ci, am_cr, am_ca, am_b0, am_b1, am_ts, am_tn, am_then_some, List.cons_append, List.nil_append, ne_eq, iI_lit, iI_add, iI_sub, iI_mul, iI_neg, iI_lt, iI_le, iI_eq, iI_in, iI_clz, dI_ap, dI_wr, setR_s, wE_R, setR_2, setR_n, setR_o, updI_s, updI_n, updI_2, tl_0, tl_1, tl_2, tl_3, tl_4, tl_5, tl_6, tl_7, tl_8, tl_9, tl_10, tl_11, tl_12, tl_13, tl_14, tl_15, tl_16, tn_3, tn_5, tn_13, tn_21, tn_29, tn_33, tn_37, tn_41, tn_45, tn_49, tn_53, tn_57, tn_61, tn_40, tn_p, tn_0, true_and, and_true, sk_0, sk_1, sk_2, sl_2, sk_3, sl_3, sk_4, sl_4, sk_5, sl_5, sk_6, sl_6, sk_7, sl_7, sk_8, sl_8, sk_9, sl_9, sk_10, sl_10, sk_11, sl_11, sk_12, sl_12, sk_13, sk_14, sl_14, sk_15, sk_40, sk_41, sl_41, sk_330, sl_330, sk_355, sk_356, sl_356, sk_357, sl_357, sk_358, sl_358, sk_359, sl_359, sk_360, sl_360, sk_361, sk_362, sl_362, sk_363, sk_376, sk_377, sl_377, sk_378, sk_379, sl_379, sk_380, sl_380, sk_381, sl_381, sk_382, sl_382, sk_383, sl_383, sk_384, sl_384, sk_385, sl_385, sk_386, sl_386, sk_387, sl_387, sk_388, sl_388, sk_389, sl_389, sk_390, sl_390, sk_391, sl_391, sk_392, sl_392, sk_393, sl_393, sk_394, sl_394, sr_0_0, sr_0_1, sr_0_2, sr_0_3, sr_0_4, sr_0_5, sr_0_6, sr_0_7, sr_0_8, sr_0_9, sr_1_0, sr_1_1, sr_1_2, sr_13_0, sr_15_0, sr_15_2, sr_40_0, sr_355_0, sr_355_1, sr_355_2, sr_355_3, sr_355_4, sr_355_5, sr_361_2, sr_361_5, sr_361_6, sr_363_0, sr_363_1, sr_376_0, sr_376_2, sr_378_0, sr_378_1, sr_378_2, sr_378_4, sr_378_8, sr_378_10, sr_378_11, sr_378_12, sr_378_14, sr_378_20, sr_378_21, sr_378_22, sr_378_23, sr_378_24, sr_378_25, sr_378_26, am_vs, H, h1, H2, h2, am_lg28.k]
    · simp (disch := first | omega | simp only [am_ci, am_cr, am_ca]) only [eX9_fame_0, eX9_fame_1, eX9_fame_4, eX9_fame_5, eX9_fame_8, eX9_fame_11, eX9_fame_12, eX9_fame_15, eX9_fame_16, eX9_fame_19, eX9_fame_22, eX9_fame_24, eX9_fame_25, eX9_fame_26, eX9_fame_27, eX9_fame_29, eX9_fame_32, eX9_fame_35, eX9_fame_37, eX9_fame_38, eX9_fame_39, eX9_fame_42, eX9_fame_45, eX9_fame_47, eX9_fame_48, eX9_fame_49, eX9_fame_52, eX9_fame_53, eX9_fame_54, eX9_fame_55, eX9_fame_58, eX9_fame_60, eX9_fame_63, eX9_fame_64, eX9_fame_67, eX9_fame_70, eX9_fame_73, eX9_fame_74, eX9_fame_77, eX9_fame_80, am_bi, Int.reduceEq, Int.reduceLT, Int.reduceLE, Int.reduceToNat, ite_self, Decidable.not_not, not_true_eq_false, not_false_eq_true, ↓reduceIte, am_ci, am_cr, am_ca, am_b0, am_b1, am_ts, am_tn, am_then_some, List.cons_append, List.nil_append, ne_eq, iI_lit, iI_add, iI_sub, iI_mul, iI_neg, iI_lt, iI_le, iI_eq, iI_in, iI_clz, dI_ap, dI_wr, setR_s, wE_R, setR_2, setR_n, setR_o, updI_s, updI_n, updI_2, tl_0, tl_1, tl_2, tl_3, tl_4, tl_5, tl_6, tl_7, tl_8, tl_9, tl_10, tl_11, tl_12, tl_13, tl_14, tl_15, tl_16, tn_3, tn_5, tn_13, tn_21, tn_29, tn_33, tn_37, tn_41, tn_45, tn_49, tn_53, tn_57, tn_61, tn_40, tn_p, tn_0, true_and, and_true, sk_0, sk_1, sk_2, sl_2, sk_3, sl_3, sk_4, sl_4, sk_5, sl_5, sk_6, sl_6, sk_7, sl_7, sk_8, sl_8, sk_9, sl_9, sk_10, sl_10, sk_11, sl_11, sk_12, sl_12, sk_13, sk_14, sl_14, sk_15, sk_40, sk_41, sl_41, sk_330, sl_330, sk_355, sk_356, sl_356, sk_357, sl_357, sk_358, sl_358, sk_359, sl_359, sk_360, sl_360, sk_361, sk_362, sl_362, sk_363, sk_376, sk_377, sl_377, sk_378, sk_379, sl_379, sk_380, sl_380, sk_381, sl_381, sk_382, sl_382, sk_383, sl_383, sk_384, sl_384, sk_385, sl_385, sk_386, sl_386, sk_387, sl_387, sk_388, sl_388, sk_389, sl_389, sk_390, sl_390, sk_391, sl_391, sk_392, sl_392, sk_393, sl_393, sk_394, sl_394, sr_0_0, sr_0_1, sr_0_2, sr_0_3, sr_0_4, sr_0_5, sr_0_6, sr_0_7, sr_0_8, sr_0_9, sr_1_0, sr_1_1, sr_1_2, sr_13_0, sr_15_0, sr_15_2, sr_40_0, sr_355_0, sr_355_1, sr_355_2, sr_355_3, sr_355_4, sr_355_5, sr_361_2, sr_361_5, sr_361_6, sr_363_0, sr_363_1, sr_376_0, sr_376_2, sr_378_0, sr_378_1, sr_378_2, sr_378_4, sr_378_8, sr_378_10, sr_378_11, sr_378_12, sr_378_14, sr_378_20, sr_378_21, sr_378_22, sr_378_23, sr_378_24, sr_378_25, sr_378_26, am_vs, H, h1, am_lg28.k]
