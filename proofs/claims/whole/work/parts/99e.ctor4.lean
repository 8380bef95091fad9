/-! ===== the small ones ===== -/
def rfO (o : Nat) (ks : List Nat) : Bool := !(am_lgs.contains o) && !(o == 41) && !(o == 330) && !(o == 4) && am_rfT.all (fun p => !(p.1 / 100 == o) || ks.contains (p.1 % 100))
/-- an object's fields that hold no reference -/
theorem rf0_f {o : Nat} {ks : List Nat} (h : rfO o ks = true) {i : Nat} (hi : i ∉ ks) : am_rf0 o i = none := by
  unfold rfO at h
  simp only [Bool.and_eq_true, Bool.not_eq_true', beq_eq_false_iff_ne, List.all_eq_true, Bool.or_eq_true] at h
  obtain ⟨⟨⟨⟨h1, h2⟩, h3⟩, h4⟩, h5⟩ := h
  have h1' : o ∉ am_lgs := fun x => by
    rw [List.contains_iff_mem.mpr x] at h1
    cases h1
  unfold am_rf0
  rw [if_neg h1', if_neg h2, if_neg h3, if_neg h4]
  split
  · rename_i c
    refine lk_n am_rfT (fun p hp e => ?_)
    rcases h5 p hp with x | x
    · omega
    · have y := List.contains_iff_mem.mp x
      rw [e, show (o * 100 + i) % 100 = i by omega] at y
      exact hi y
  · rfl
theorem i_tape {d sl : Nat} {R : Nat → Nat → Option Nat} (h1 : R 13 = am_rf0 13) (h2 : R 14 = am_rf0 14) : am_sem (d + 1) 80 [.ref 13] (am_Sx 14 sl (rfC R 13)) (dI E0) = some (none, am_Sx 15 (sl + 120) R, dI E0) := by
  have n1 := fun sl R => sx_n (sl := sl) (R := R) sk_14 sl_14
  have e : rfP (rfC (rfC R 13) 14) 13 0 (some 14) = R := by
    funext b i
    unfold rfP rfC
    by_cases c : b = 13
    · subst c
      by_cases c2 : i = 0
      · subst c2; rw [if_pos ⟨rfl, rfl⟩, h1]; rfl
      · rw [if_neg (fun x => c2 x.2), if_neg (by omega), if_pos rfl, h1]
        exact (rf0_f (ks := [0]) (by decide +kernel) (by simp [c2])).symm
    · rw [if_neg (fun x => c x.1)]
      by_cases c2 : b = 14
      · subst c2; rw [if_pos rfl, h2]; exact (rf0_n (by decide +kernel) i).symm
      · rw [if_neg c2, if_neg c]
  refine mX7_init rfl rfl ?_
  simp (disch := first | omega | simp only [am_ci, am_cr, am_ca]) only [eX7_init_0, eX7_init_1, eX7_init_4, eX7_init_5, eX7_init_7, eX7_init_9, eX7_init_12, am_bi, Int.reduceEq, Int.reduceLT, Int.reduceLE, Int.reduceToNat, ite_self, Decidable.not_not, not_true_eq_false, not_false_eq_true, ↓reduceIte, am_ci, am_cr, am_ca, am_b0, am_b1, am_ts, am_tn, am_then_some, List.cons_append, List.nil_append, ne_eq, iI_lit, iI_add, iI_sub, iI_mul, iI_neg, iI_lt, iI_le, iI_eq, iI_in, iI_clz, dI_ap, dI_wr, setR_s, wE_R, setR_2, setR_n, setR_o, updI_s, updI_n, updI_2, tl_0, tl_1, tl_2, tl_3, tl_4, tl_5, tl_6, tl_7, tl_8, tl_9, tl_10, tl_11, tl_12, tl_13, tl_14, tl_15, tl_16, tn_3, tn_5, tn_13, tn_21, tn_29, tn_33, tn_37, tn_41, tn_45, tn_49, tn_53, tn_57, tn_61, tn_40, tn_p, tn_0, true_and, and_true, sk_0, sk_1, sk_2, sl_2, sk_3, sl_3, sk_4, sl_4, sk_5, sl_5, sk_6, sl_6, sk_7, sl_7, sk_8, sl_8, sk_9, sl_9, sk_10, sl_10, sk_11, sl_11, sk_12, sl_12, sk_13, sk_14, sl_14, sk_15, sk_40, sk_41, sl_41, sk_330, sl_330, sk_355, sk_356, sl_356, sk_357, sl_357, sk_358, sl_358, sk_359, sl_359, sk_360, sl_360, sk_361, sk_362, sl_362, sk_363, sk_376, sk_377, sl_377, sk_378, sk_379, sl_379, sk_380, sl_380, sk_381, sl_381, sk_382, sl_382, sk_383, sl_383, sk_384, sl_384, sk_385, sl_385, sk_386, sl_386, sk_387, sl_387, sk_388, sl_388, sk_389, sl_389, sk_390, sl_390, sk_391, sl_391, sk_392, sl_392, sk_393, sl_393, sk_394, sl_394, sr_0_0, sr_0_1, sr_0_2, sr_0_3, sr_0_4, sr_0_5, sr_0_6, sr_0_7, sr_0_8, sr_0_9, sr_1_0, sr_1_1, sr_1_2, sr_13_0, sr_15_0, sr_15_2, sr_40_0, sr_355_0, sr_355_1, sr_355_2, sr_355_3, sr_355_4, sr_355_5, sr_361_2, sr_361_5, sr_361_6, sr_363_0, sr_363_1, sr_376_0, sr_376_2, sr_378_0, sr_378_1, sr_378_2, sr_378_4, sr_378_8, sr_378_10, sr_378_11, sr_378_12, sr_378_14, sr_378_20, sr_378_21, sr_378_22, sr_378_23, sr_378_24, sr_378_25, sr_378_26, am_vs, sx_k, sx_x, sx_w, n1, zr_0, e]
  repeat (refine ⟨⟨by decide, Or.inl trivial⟩, by decide, ?_⟩)
  trivial
