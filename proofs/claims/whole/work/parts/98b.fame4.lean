/-! ===== fame: seeking ===== -/
theorem sB_cg {f g : Nat → Int} {p : Nat} (h : f p = g p) (S : Nat) (v : Int) : sB f S p v = sB g S p v := by unfold sB; rw [h]
theorem updI_e (g : Nat → Int) (k : Nat) : updI g k (g k) = g := by
  funext q; unfold updI; split
  · rename_i e; rw [e]
  · rfl
/-- since when ports know it, at sea alone -/
def faF (t : Nat → Int) (s n p : Nat) : Int := foV (foD t (2 ^ s) n p)
/-- from when it may sail with it -/
def faK (t : Nat → Int) (s n p : Nat) : Int := knC t s n (faF t s n) (cm0 t s) p
theorem c_seek {d s n N W : Nat} {dd : Int} {E : Nat → Nat → Int} {t : Nat → Int} {Dm : Nat → Nat → Int → Prop} (hF : fR E t) (hs : s < 4) (hs2 : (s : Int) < t 2) (hn : n < 4) (hd : 0 ≤ dd ∧ dd ≤ 30) (h3 : t 3 ≤ 99) (hN : t 0 = (N : Int)) (hW : t 1 = (W : Int)) (hD0 : ∀ p, p < N → faK t s n p ≤ t 3 + dd → Dm (sB (faF t s n) 0 p (faK t s n p)) p (faK t s n p)) (hD : ∀ S e b c v, S < 2 ^ N → QW t s W e b c → Dm S e v → v + c ≤ t 3 + dd → Dm (sB (faF t s n) S b (v + c)) b (v + c)) : ∃ E' h, ((∀ b, (b < 356 ∨ 358 < b) → b ≠ 361 → b ≠ 362 → E' b = E b) ∧ Vl Dm N (t 3 + dd) h ∧ (∀ p, p < N → faK t s n p ≤ t 3 + dd → h (6 * sB (faF t s n) 0 p (faK t s n p) + p) ≤ faK t s n p) ∧ (∀ S, S < 2 ^ N → ∀ e, e < 6 → ∀ b c, QW t s W e b c → edg (faF t s n) (t 3 + dd) h S e b c) ∧ bJ h (t 3 + dd) (t 3) (fun S p => S < 2 ^ N ∧ p < N) (E' 361 0) (E' 361 1)) ∧ am_sem (d + 5) 67 [.ref 361, .int (iI s), .int (iI n), .int (iI dd)] am_S0 (dI E) = some (none, am_S0, dI E') := by
  have hF0 := hF
  obtain ⟨⟨hR, hDd⟩, hw, hqT⟩ := hF
  have hb := hw.1.1
  have a0 := hb.2.1
  have a1 := hb.2.2.1
  have a3 := hb.2.2.2.2.1
  have wy := wyN_q hw hqT
  have h1 : w1T t := hqT.1.2.2.1
  have cmb := (cm_b hb h1 hs).1
  have p6 : (2 : Nat) ^ N ≤ 64 := Nat.pow_le_pow_right (show 0 < 2 by omega) (show N ≤ 6 by omega)
  have fob : ∀ p, p < N → 0 ≤ faF t s n p ∧ faF t s n p ≤ 1000000 := fun p hp => by
    have d0 := (foD_p hw hqT (2 ^ s) hn).1 p (by omega)
    unfold faF foV
    split <;> omega
  obtain ⟨g1, g2, q1, q2, H1⟩ := c_foretellWithout (d := d) hF0 hs hs2 hn
  have o1 : ∀ b, b ≠ 356 → b ≠ 357 → setR (setR E 356 g1) 357 g2 b = E b := fun b x y => by rw [setR_n y, setR_n x]
  have F1 : fR (setR (setR E 356 g1) 357 g2) t := ⟨lgR_fr hF0.1 (fun b x y => o1 b (by omega) (by omega)), hw, hqT⟩
  obtain ⟨g3, q3, H2⟩ := c_foretellKnowing (d := d + 2) (E := setR (setR E 356 g1) 357 g2) F1 hs hs2 hn (by rw [setR_n (by omega), setR_s]; intro p hp; rw [q1 p hp]; have : 0 ≤ foV (foD t (2 ^ s) n p) ∧ foV (foD t (2 ^ s) n p) ≤ 1000000 := fob p (by omega); omega) (by rw [setR_s]; intro p hp; rw [q2 p (by omega)]; have := cmb p (by omega); omega)
  rw [setR_n (show (356 : Nat) ≠ 357 by omega), setR_s, setR_s] at q3
  have k3 : ∀ p, p < N → g3 p = faK t s n p := fun p hp => by
    have e1 : g1 p = faF t s n p := q1 p (by omega)
    rw [q3 p (by omega)]
    unfold faK knC
    rw [q2 p (by omega), e1]
  have kb : ∀ p, p < N → 0 ≤ faK t s n p ∧ faK t s n p ≤ 1000000 := fun p hp => by
    have x1 := fob p hp
    have x2 := cmb p (by omega)
    unfold faK knC
    (repeat' split) <;> omega
  generalize hE2 : setR (setR (setR E 356 g1) 357 g2) 358 g3 = E2 at *
  have o2 : ∀ b, b ≠ 356 → b ≠ 357 → b ≠ 358 → E2 b = E b := fun b x y z => by rw [← hE2, setR_n z, o1 b x y]
  have f2 : E2 356 = g1 := by rw [← hE2, setR_n (by omega), setR_n (by omega), setR_s]
  have k2 : E2 358 = g3 := by rw [← hE2, setR_s]
  have F2 : fR E2 t := ⟨lgR_fr hF0.1 (fun b x y => o2 b (by omega) (by omega) (by omega)), hw, hqT⟩
  have gfb : ∀ p, p < N → 0 ≤ g1 p ∧ g1 p ≤ 1000000 := fun p hp => by rw [q1 p (by omega)]; exact fob p hp
  have sBe : ∀ S p v, p < N → sB g1 S p v = sB (faF t s n) S p v := fun S p v hp => sB_cg (q1 p (by omega)) S v
  have e0 : E2 28 0 = (N : Int) := by rw [o2 28 (by omega) (by omega) (by omega), hR.1.1, hN]
  have e3 : E2 28 3 = t 3 := by rw [o2 28 (by omega) (by omega) (by omega)]; exact hR.1.2.2.2.1
  have e4 : E2 32 s = t (29 + s) := by rw [o2 32 (by omega) (by omega) (by omega)]; exact (hR.2.2.1 s hs hs2).1
  have H3 : ∀ F, am_sem (d + 4) 211 [.ref 362, .int (iI 1000000)] am_S0 (dI F) = some (none, am_S0, dI (setR F 362 (flT (F 362) 1000000 384))) := fun F => j_fill (d := d + 3) sk_362 sl_362 (by omega)
  generalize hl : t 3 + dd = l at *
  have lb : 0 ≤ l ∧ l ≤ 200 := by omega
  -- the starts
  obtain ⟨⟨h, fl⟩, ⟨i1, i2⟩, he1⟩ := am_fwd (X := (Nat → Int) × Int) (I := fun k y => Vl Dm N l y.1 ∧ ∀ p, p < k → faK t s n p ≤ l → y.1 (6 * sB (faF t s n) 0 p (faK t s n p) + p) ≤ faK t s n p) (ev := fun k y R => am_ev (am_sem (d + 4)) 5 cX5_seek 43 [.ref 361, .int (iI s), .int (iI n), .int (iI dd), .int (iI k)] [] am_S0 (dI (rnE E2 (updI (E2 361) 3 l) y.1 y.2)) R) (n := N) (by
    rintro k ⟨g, z⟩ hk ⟨j1, j2⟩
    dsimp only at j1 j2
    have gb := fun (i : Nat) (hi : i < 384) => Vl_b (by omega) j1 hi
    have kk := kb k hk
    have C := c_come (d := d + 3) (S := 0) (p := k) (v := faK t s n k) (fl := z) (l := l) (f := g1) (m := updI (E2 361) 3 l) (h := g) (E := E2) (by omega) (by omega) (by omega) f2 (gfb k hk) (updI_s _ _ _) lb gb
    have V := Vl_co (f := g1) (S := 0) (p := k) (v := faK t s n k) j1 (Nat.two_pow_pos N) hk (by omega) kk.1 (fun x => by rw [sBe 0 k _ hk]; exact hD0 k hk x)
    have L := coH_le (f := g1) (l := l) 0 k (faK t s n k) g
    refine ⟨(coH g1 l 0 k (faK t s n k) g, if coB g1 l 0 k (faK t s n k) g then 1 else z), ⟨V, fun p hp x => ?_⟩, fun R ih => ?_⟩
    · dsimp only
      by_cases e : p = k
      · subst e
        rw [← sBe 0 p _ hk]
        unfold coH
        split
        · rw [updI_s]; omega
        · rename_i y
          by_cases y2 : faK t s n p < g (6 * sB g1 0 p (faK t s n p) + p)
          · exact absurd ⟨x, y2⟩ y
          · omega
      · have := j2 p (by omega) x
        have := L (6 * sB (faF t s n) 0 p (faK t s n p) + p)
        omega
    · dsimp only at ih ⊢
      have k3' := k3 k hk
      rw [show ((0 : Nat) : Int) = 0 from rfl] at C
      rw [show ((k + 1 : Nat) : Int) = (k : Int) + 1 by omega] at ih
      rw [eX5_seek_43]
      simp (disch := first | omega | simp only [am_ci, am_cr, am_ca]) only [eX5_seek_45, eX5_seek_46, eX5_seek_49, eX5_seek_52, eX5_seek_55, eX5_seek_56, eX5_seek_57, eX5_seek_59, eX5_seek_60, eX5_seek_63, eX5_seek_66, eX5_seek_68, eX5_seek_69, eX5_seek_72, eX5_seek_75, am_bi, Int.reduceEq, Int.reduceLT, Int.reduceLE, Int.reduceToNat, ite_self, Decidable.not_not, not_true_eq_false, not_false_eq_true, ↓reduceIte, am_ci, am_cr, am_ca, am_b0, am_b1, am_ts, am_tn, am_then_some, List.cons_append, List.nil_append, ne_eq, iI_lit, iI_add, iI_sub, iI_mul, iI_neg, iI_lt, iI_le, iI_eq, iI_in, iI_clz, dI_ap, dI_wr, setR_s, wE_R, setR_2, setR_n, setR_o, updI_s, updI_n, updI_2, tl_0, tl_1, tl_2, tl_3, tl_4, tl_5, tl_6, tl_7, tl_8, tl_9, tl_10, tl_11, tl_12, tl_13, tl_14, tl_15, tl_16, tn_3, tn_5, tn_13, tn_21, tn_29, tn_33, tn_37, tn_41, tn_45, tn_49, tn_53, tn_57, tn_61, tn_40, tn_p, tn_0, true_and, and_true, sk_0, sk_1, sk_2, sl_2, sk_3, sl_3, sk_4, sl_4, sk_5, sl_5, sk_6, sl_6, sk_7, sl_7, sk_8, sl_8, sk_9, sl_9, sk_10, sl_10, sk_11, sl_11, sk_12, sl_12, sk_13, sk_14, sl_14, sk_15, sk_40, sk_41, sl_41, sk_330, sl_330, sk_355, sk_356, sl_356, sk_357, sl_357, sk_358, sl_358, sk_359, sl_359, sk_360, sl_360, sk_361, sk_362, sl_362, sk_363, sk_376, sk_377, sl_377, sk_378, sk_379, sl_379, sk_380, sl_380, sk_381, sl_381, sk_382, sl_382, sk_383, sl_383, sk_384, sl_384, sk_385, sl_385, sk_386, sl_386, sk_387, sl_387, sk_388, sl_388, sk_389, sl_389, sk_390, sl_390, sk_391, sl_391, sk_392, sl_392, sk_393, sl_393, sk_394, sl_394, sr_0_0, sr_0_1, sr_0_2, sr_0_3, sr_0_4, sr_0_5, sr_0_6, sr_0_7, sr_0_8, sr_0_9, sr_1_0, sr_1_1, sr_1_2, sr_13_0, sr_15_0, sr_15_2, sr_40_0, sr_355_0, sr_355_1, sr_355_2, sr_355_3, sr_355_4, sr_355_5, sr_361_2, sr_361_5, sr_361_6, sr_363_0, sr_363_1, sr_376_0, sr_376_2, sr_378_0, sr_378_1, sr_378_2, sr_378_4, sr_378_8, sr_378_10, sr_378_11, sr_378_12, sr_378_14, sr_378_20, sr_378_21, sr_378_22, sr_378_23, sr_378_24, sr_378_25, sr_378_26, am_vs, rnE_o, e0, k2, k3', am_lg28.k, C]
      repeat (first | rw [if_pos (by omega)] | rw [if_neg (by omega)])
      exact ih) (k := 0) (x := (flT (E2 362) 1000000 384, E2 361 4)) (by omega) ⟨fun S p hS hp => Or.inl (by show flT (E2 362) 1000000 384 (6 * S + p) = 1000000; unfold flT; rw [if_pos (by omega)]), fun p hp => by omega⟩
  dsimp only at i1 i2 he1
  -- the sets
  obtain ⟨⟨m', h', fl'⟩, ⟨m1, m2, m3, m4, m5⟩, he2⟩ := am_fwd (X := (Nat → Int) × (Nat → Int) × Int) (I := fun k y => y.1 3 = l ∧ Vl Dm N l y.2.1 ∧ (∀ p, p < N → faK t s n p ≤ l → y.2.1 (6 * sB (faF t s n) 0 p (faK t s n p) + p) ≤ faK t s n p) ∧ (∀ S, S < k → ∀ e, e < 6 → ∀ b c, QW t s W e b c → edg (faF t s n) l y.2.1 S e b c) ∧ bJ y.2.1 l (t 3) (fun S p => S < k ∧ p < N) (y.1 0) (y.1 1)) (ev := fun k y R => am_ev (am_sem (d + 4)) 5 cX5_seek 91 [.ref 361, .int (iI s), .int (iI n), .int (iI dd), .int (iI k)] [] am_S0 (dI (rnE E2 y.1 y.2.1 y.2.2)) R) (n := 2 ^ N) (by
    rintro S ⟨m, g, z⟩ hS ⟨j1, j2, j3, j4, j5⟩
    dsimp only at j1 j2 j3 j4 j5
    have i1 := iI_shl (k := N) (by omega)
    obtain ⟨g', z', ⟨s1, s2, s3, s4⟩, HS⟩ := c_settle (d := d + 2) (S := S) (E := E2) (m := m) (h := g) (f := g1) (l := l) (fl := z) (Dm := Dm) F2 hs hs2 hN hW f2 gfb j1 lb hS j2 (fun e b c v q x y => by
      have bN : b < N := by
        obtain ⟨w, x1, x2, -⟩ := q
        have := wy w (by omega) (by omega)
        omega
      rw [sBe S b _ bN]; exact hD S e b c v hS q x y)
    have gb := fun (i : Nat) (hi : i < 384) => Vl_b (by omega) s1 hi
    have jB : bJ g' l (t 3) (fun S' p => S' < S ∧ p < N) (m 0) (m 1) := bJ_h j5 (fun _ _ => Iff.rfl) (fun S' p x => s3 _ (by omega))
    obtain ⟨m', ⟨n1, n2⟩, HJ⟩ := c_judge (d := d + 2) (S := S) (E := E2) (m := m) (h := g') (l := l) (fl := z') F2 hN j1 lb (by omega) gb jB
    refine ⟨(m', g', z'), ⟨n1, s1, fun p hp x => ?_, fun S' hS' e he b c q => ?_, n2⟩, fun R ih => ?_⟩
    · have := j3 p hp x
      have := s2 (6 * sB (faF t s n) 0 p (faK t s n p) + p)
      show g' (6 * sB (faF t s n) 0 p (faK t s n p) + p) ≤ faK t s n p
      omega
    · by_cases e' : S' = S
      · subst e'
        have bN : b < N := by
          obtain ⟨w, x1, x2, -⟩ := q
          have := wy w (by omega) (by omega)
          omega
        have x := s4 e he b c q
        unfold edg at x ⊢
        rw [sBe S' b _ bN] at x
        exact x
      · exact edg_m s2 (s3 _ (by omega)) (j4 S' (by omega) e he b c q)
    · dsimp only at ih ⊢
      rw [show ((S + 1 : Nat) : Int) = (S : Int) + 1 by omega] at ih
      rw [eX5_seek_91]
      simp (disch := first | omega | simp only [am_ci, am_cr, am_ca]) only [eX5_seek_93, eX5_seek_94, eX5_seek_95, eX5_seek_98, eX5_seek_101, eX5_seek_102, eX5_seek_105, eX5_seek_106, eX5_seek_108, eX5_seek_109, eX5_seek_112, eX5_seek_115, eX5_seek_116, eX5_seek_117, eX5_seek_120, eX5_seek_121, eX5_seek_123, eX5_seek_126, eX5_seek_129, am_bi, Int.reduceEq, Int.reduceLT, Int.reduceLE, Int.reduceToNat, ite_self, Decidable.not_not, not_true_eq_false, not_false_eq_true, ↓reduceIte, am_ci, am_cr, am_ca, am_b0, am_b1, am_ts, am_tn, am_then_some, List.cons_append, List.nil_append, ne_eq, iI_lit, iI_add, iI_sub, iI_mul, iI_neg, iI_lt, iI_le, iI_eq, iI_in, iI_clz, dI_ap, dI_wr, setR_s, wE_R, setR_2, setR_n, setR_o, updI_s, updI_n, updI_2, tl_0, tl_1, tl_2, tl_3, tl_4, tl_5, tl_6, tl_7, tl_8, tl_9, tl_10, tl_11, tl_12, tl_13, tl_14, tl_15, tl_16, tn_3, tn_5, tn_13, tn_21, tn_29, tn_33, tn_37, tn_41, tn_45, tn_49, tn_53, tn_57, tn_61, tn_40, tn_p, tn_0, true_and, and_true, sk_0, sk_1, sk_2, sl_2, sk_3, sl_3, sk_4, sl_4, sk_5, sl_5, sk_6, sl_6, sk_7, sl_7, sk_8, sl_8, sk_9, sl_9, sk_10, sl_10, sk_11, sl_11, sk_12, sl_12, sk_13, sk_14, sl_14, sk_15, sk_40, sk_41, sl_41, sk_330, sl_330, sk_355, sk_356, sl_356, sk_357, sl_357, sk_358, sl_358, sk_359, sl_359, sk_360, sl_360, sk_361, sk_362, sl_362, sk_363, sk_376, sk_377, sl_377, sk_378, sk_379, sl_379, sk_380, sl_380, sk_381, sl_381, sk_382, sl_382, sk_383, sl_383, sk_384, sl_384, sk_385, sl_385, sk_386, sl_386, sk_387, sl_387, sk_388, sl_388, sk_389, sl_389, sk_390, sl_390, sk_391, sl_391, sk_392, sl_392, sk_393, sl_393, sk_394, sl_394, sr_0_0, sr_0_1, sr_0_2, sr_0_3, sr_0_4, sr_0_5, sr_0_6, sr_0_7, sr_0_8, sr_0_9, sr_1_0, sr_1_1, sr_1_2, sr_13_0, sr_15_0, sr_15_2, sr_40_0, sr_355_0, sr_355_1, sr_355_2, sr_355_3, sr_355_4, sr_355_5, sr_361_2, sr_361_5, sr_361_6, sr_363_0, sr_363_1, sr_376_0, sr_376_2, sr_378_0, sr_378_1, sr_378_2, sr_378_4, sr_378_8, sr_378_10, sr_378_11, sr_378_12, sr_378_14, sr_378_20, sr_378_21, sr_378_22, sr_378_23, sr_378_24, sr_378_25, sr_378_26, am_vs, rnE_o, e0, e4, i1, am_lg28.k, am_lg28.k4, am_lg28.r4, am_lg28.l4, HS, HJ]
      repeat (first | rw [if_pos (by omega)] | rw [if_neg (by omega)])
      exact ih) (k := 0) (x := (updI (updI (updI (E2 361) 3 l) 0 0) 1 0, h, fl)) (Nat.zero_le _) ⟨by show updI (updI (updI (E2 361) 3 l) 0 0) 1 0 3 = l; rw [updI_n (by omega), updI_n (by omega), updI_s], i1, i2, fun S hS => by omega, by
        show bJ h l (t 3) (fun S p => S < 0 ∧ p < N) (updI (updI (updI (E2 361) 3 l) 0 0) 1 0 0) (updI (updI (updI (E2 361) 3 l) 0 0) 1 0 1)
        rw [updI_n (show (0 : Nat) ≠ 1 by omega), updI_s, updI_s]
        exact ⟨Or.inl ⟨rfl, rfl⟩, fun S p x => by omega⟩⟩
  dsimp only at m1 m2 m3 m4 m5 he2
  refine ⟨rnE E2 m' h' fl', h', ⟨fun b x y z => ?_, m2, m3, m4, ?_⟩, ?_⟩
  · rw [rnE_o _ _ _ _ y z, o2 b (by omega) (by omega) (by omega)]
  · rw [rnE_1, updI_n (by omega), updI_n (by omega)]; exact m5
  · have i1 := iI_shl (k := N) (by omega)
    have hb2 := he2 (none, am_S0, dI (rnE E2 m' h' fl')) (by
      rw [eX5_seek_91]
      simp (disch := first | omega | simp only [am_ci, am_cr, am_ca]) only [eX5_seek_93, eX5_seek_94, eX5_seek_95, eX5_seek_98, eX5_seek_101, eX5_seek_102, eX5_seek_105, eX5_seek_106, eX5_seek_108, eX5_seek_109, eX5_seek_112, eX5_seek_115, eX5_seek_116, eX5_seek_117, eX5_seek_120, eX5_seek_121, eX5_seek_123, eX5_seek_126, eX5_seek_129, eX5_seek_132, am_bi, Int.reduceEq, Int.reduceLT, Int.reduceLE, Int.reduceToNat, ite_self, Decidable.not_not, not_true_eq_false, not_false_eq_true, ↓reduceIte, am_ci, am_cr, am_ca, am_b0, am_b1, am_ts, am_tn, am_then_some, List.cons_append, List.nil_append, ne_eq, iI_lit, iI_add, iI_sub, iI_mul, iI_neg, iI_lt, iI_le, iI_eq, iI_in, iI_clz, dI_ap, dI_wr, setR_s, wE_R, setR_2, setR_n, setR_o, updI_s, updI_n, updI_2, tl_0, tl_1, tl_2, tl_3, tl_4, tl_5, tl_6, tl_7, tl_8, tl_9, tl_10, tl_11, tl_12, tl_13, tl_14, tl_15, tl_16, tn_3, tn_5, tn_13, tn_21, tn_29, tn_33, tn_37, tn_41, tn_45, tn_49, tn_53, tn_57, tn_61, tn_40, tn_p, tn_0, true_and, and_true, sk_0, sk_1, sk_2, sl_2, sk_3, sl_3, sk_4, sl_4, sk_5, sl_5, sk_6, sl_6, sk_7, sl_7, sk_8, sl_8, sk_9, sl_9, sk_10, sl_10, sk_11, sl_11, sk_12, sl_12, sk_13, sk_14, sl_14, sk_15, sk_40, sk_41, sl_41, sk_330, sl_330, sk_355, sk_356, sl_356, sk_357, sl_357, sk_358, sl_358, sk_359, sl_359, sk_360, sl_360, sk_361, sk_362, sl_362, sk_363, sk_376, sk_377, sl_377, sk_378, sk_379, sl_379, sk_380, sl_380, sk_381, sl_381, sk_382, sl_382, sk_383, sl_383, sk_384, sl_384, sk_385, sl_385, sk_386, sl_386, sk_387, sl_387, sk_388, sl_388, sk_389, sl_389, sk_390, sl_390, sk_391, sl_391, sk_392, sl_392, sk_393, sl_393, sk_394, sl_394, sr_0_0, sr_0_1, sr_0_2, sr_0_3, sr_0_4, sr_0_5, sr_0_6, sr_0_7, sr_0_8, sr_0_9, sr_1_0, sr_1_1, sr_1_2, sr_13_0, sr_15_0, sr_15_2, sr_40_0, sr_355_0, sr_355_1, sr_355_2, sr_355_3, sr_355_4, sr_355_5, sr_361_2, sr_361_5, sr_361_6, sr_363_0, sr_363_1, sr_376_0, sr_376_2, sr_378_0, sr_378_1, sr_378_2, sr_378_4, sr_378_8, sr_378_10, sr_378_11, sr_378_12, sr_378_14, sr_378_20, sr_378_21, sr_378_22, sr_378_23, sr_378_24, sr_378_25, sr_378_26, am_vs, rnE_o, e0, i1, am_lg28.k]
      rw [if_pos (Int32.le_refl _)]
      trivial)
    have en : setR (rnE E2 (updI (E2 361) 3 l) h fl) 361 (updI (updI (updI (updI (E2 361) 3 l) 4 fl) 0 0) 1 0) = rnE E2 (updI (updI (updI (E2 361) 3 l) 0 0) 1 0) h fl := by
      unfold rnE
      rw [setR_2, updI_c (show (1 : Nat) ≠ 4 by omega), updI_c (show (0 : Nat) ≠ 4 by omega)]
    rw [← en] at hb2
    have hb1 := he1 (none, am_S0, dI (rnE E2 m' h' fl')) (by
      rw [eX5_seek_43]
      simp (disch := first | omega | simp only [am_ci, am_cr, am_ca]) only [eX5_seek_45, eX5_seek_46, eX5_seek_49, eX5_seek_52, eX5_seek_55, eX5_seek_56, eX5_seek_57, eX5_seek_59, eX5_seek_60, eX5_seek_63, eX5_seek_66, eX5_seek_68, eX5_seek_69, eX5_seek_72, eX5_seek_75, eX5_seek_78, eX5_seek_79, eX5_seek_80, eX5_seek_83, eX5_seek_84, eX5_seek_85, eX5_seek_88, eX5_seek_89, am_bi, Int.reduceEq, Int.reduceLT, Int.reduceLE, Int.reduceToNat, ite_self, Decidable.not_not, not_true_eq_false, not_false_eq_true, ↓reduceIte, am_ci, am_cr, am_ca, am_b0, am_b1, am_ts, am_tn, am_then_some, List.cons_append, List.nil_append, ne_eq, iI_lit, iI_add, iI_sub, iI_mul, iI_neg, iI_lt, iI_le, iI_eq, iI_in, iI_clz, dI_ap, dI_wr, setR_s, wE_R, setR_2, setR_n, setR_o, updI_s, updI_n, updI_2, tl_0, tl_1, tl_2, tl_3, tl_4, tl_5, tl_6, tl_7, tl_8, tl_9, tl_10, tl_11, tl_12, tl_13, tl_14, tl_15, tl_16, tn_3, tn_5, tn_13, tn_21, tn_29, tn_33, tn_37, tn_41, tn_45, tn_49, tn_53, tn_57, tn_61, tn_40, tn_p, tn_0, true_and, and_true, sk_0, sk_1, sk_2, sl_2, sk_3, sl_3, sk_4, sl_4, sk_5, sl_5, sk_6, sl_6, sk_7, sl_7, sk_8, sl_8, sk_9, sl_9, sk_10, sl_10, sk_11, sl_11, sk_12, sl_12, sk_13, sk_14, sl_14, sk_15, sk_40, sk_41, sl_41, sk_330, sl_330, sk_355, sk_356, sl_356, sk_357, sl_357, sk_358, sl_358, sk_359, sl_359, sk_360, sl_360, sk_361, sk_362, sl_362, sk_363, sk_376, sk_377, sl_377, sk_378, sk_379, sl_379, sk_380, sl_380, sk_381, sl_381, sk_382, sl_382, sk_383, sl_383, sk_384, sl_384, sk_385, sl_385, sk_386, sl_386, sk_387, sl_387, sk_388, sl_388, sk_389, sl_389, sk_390, sl_390, sk_391, sl_391, sk_392, sl_392, sk_393, sl_393, sk_394, sl_394, sr_0_0, sr_0_1, sr_0_2, sr_0_3, sr_0_4, sr_0_5, sr_0_6, sr_0_7, sr_0_8, sr_0_9, sr_1_0, sr_1_1, sr_1_2, sr_13_0, sr_15_0, sr_15_2, sr_40_0, sr_355_0, sr_355_1, sr_355_2, sr_355_3, sr_355_4, sr_355_5, sr_361_2, sr_361_5, sr_361_6, sr_363_0, sr_363_1, sr_376_0, sr_376_2, sr_378_0, sr_378_1, sr_378_2, sr_378_4, sr_378_8, sr_378_10, sr_378_11, sr_378_12, sr_378_14, sr_378_20, sr_378_21, sr_378_22, sr_378_23, sr_378_24, sr_378_25, sr_378_26, am_vs, rnE_o, rnE_1, e0, am_lg28.k]
      repeat (first | rw [if_pos (by omega)] | rw [if_neg (by omega)])
      exact hb2)
    have es : rnE E2 (updI (E2 361) 3 l) (flT (E2 362) 1000000 384) (E2 361 4) = setR (setR E2 361 (updI (E2 361) 3 l)) 362 (flT (E2 362) 1000000 384) := by
      unfold rnE
      have : updI (updI (E2 361) 3 l) 4 (E2 361 4) = updI (E2 361) 3 l := by
        have := updI_e (updI (E2 361) 3 l) 4
        rw [updI_n (show (4 : Nat) ≠ 3 by omega)] at this
        exact this
      rw [this, setR_c (by omega)]
    rw [es] at hb1
    refine mX5_seek rfl rfl ?_
    simp (disch := first | omega | simp only [am_ci, am_cr, am_ca]) only [eX5_seek_0, eX5_seek_1, eX5_seek_4, eX5_seek_5, eX5_seek_6, eX5_seek_9, eX5_seek_10, eX5_seek_13, eX5_seek_14, eX5_seek_15, eX5_seek_18, eX5_seek_19, eX5_seek_20, eX5_seek_23, eX5_seek_26, eX5_seek_27, eX5_seek_28, eX5_seek_31, eX5_seek_32, eX5_seek_35, eX5_seek_37, eX5_seek_40, eX5_seek_41, am_bi, Int.reduceEq, Int.reduceLT, Int.reduceLE, Int.reduceToNat, ite_self, Decidable.not_not, not_true_eq_false, not_false_eq_true, ↓reduceIte, am_ci, am_cr, am_ca, am_b0, am_b1, am_ts, am_tn, am_then_some, List.cons_append, List.nil_append, ne_eq, iI_lit, iI_add, iI_sub, iI_mul, iI_neg, iI_lt, iI_le, iI_eq, iI_in, iI_clz, dI_ap, dI_wr, setR_s, wE_R, setR_2, setR_n, setR_o, updI_s, updI_n, updI_2, tl_0, tl_1, tl_2, tl_3, tl_4, tl_5, tl_6, tl_7, tl_8, tl_9, tl_10, tl_11, tl_12, tl_13, tl_14, tl_15, tl_16, tn_3, tn_5, tn_13, tn_21, tn_29, tn_33, tn_37, tn_41, tn_45, tn_49, tn_53, tn_57, tn_61, tn_40, tn_p, tn_0, true_and, and_true, sk_0, sk_1, sk_2, sl_2, sk_3, sl_3, sk_4, sl_4, sk_5, sl_5, sk_6, sl_6, sk_7, sl_7, sk_8, sl_8, sk_9, sl_9, sk_10, sl_10, sk_11, sl_11, sk_12, sl_12, sk_13, sk_14, sl_14, sk_15, sk_40, sk_41, sl_41, sk_330, sl_330, sk_355, sk_356, sl_356, sk_357, sl_357, sk_358, sl_358, sk_359, sl_359, sk_360, sl_360, sk_361, sk_362, sl_362, sk_363, sk_376, sk_377, sl_377, sk_378, sk_379, sl_379, sk_380, sl_380, sk_381, sl_381, sk_382, sl_382, sk_383, sl_383, sk_384, sl_384, sk_385, sl_385, sk_386, sl_386, sk_387, sl_387, sk_388, sl_388, sk_389, sl_389, sk_390, sl_390, sk_391, sl_391, sk_392, sl_392, sk_393, sl_393, sk_394, sl_394, sr_0_0, sr_0_1, sr_0_2, sr_0_3, sr_0_4, sr_0_5, sr_0_6, sr_0_7, sr_0_8, sr_0_9, sr_1_0, sr_1_1, sr_1_2, sr_13_0, sr_15_0, sr_15_2, sr_40_0, sr_355_0, sr_355_1, sr_355_2, sr_355_3, sr_355_4, sr_355_5, sr_361_2, sr_361_5, sr_361_6, sr_363_0, sr_363_1, sr_376_0, sr_376_2, sr_378_0, sr_378_1, sr_378_2, sr_378_4, sr_378_8, sr_378_10, sr_378_11, sr_378_12, sr_378_14, sr_378_20, sr_378_21, sr_378_22, sr_378_23, sr_378_24, sr_378_25, sr_378_26, am_vs, H1, H2, e3, hl, H3, am_lg28.k]
    exact hb1
