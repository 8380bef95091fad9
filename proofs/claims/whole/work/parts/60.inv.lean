/-! ===== what a league is between calls; acts ===== -/
abbrev kw (t : Nat → Int) (p n : Nat) : Int := t (61 + 4 * p + n)
abbrev bit (x : Int) (n : Nat) : Prop := x.toNat / 2 ^ n % 2 = 1
/-- what is known early enough has come along its ways -/
def clo (t : Nat → Int) : Prop := ∀ w : Nat, w < 8 → (w : Int) < t 1 → ∀ n, n < 4 →
  (0 ≤ kw t (t (5 + w)).toNat n → kw t (t (5 + w)).toNat n + 3 * t (21 + w) ≤ t 3 → 0 ≤ kw t (t (13 + w)).toNat n ∧ kw t (t (13 + w)).toNat n ≤ kw t (t (5 + w)).toNat n + 3 * t (21 + w)) ∧
  (0 ≤ kw t (t (13 + w)).toNat n → kw t (t (13 + w)).toNat n + 3 * t (21 + w) ≤ t 3 → 0 ≤ kw t (t (5 + w)).toNat n ∧ kw t (t (5 + w)).toNat n ≤ kw t (t (13 + w)).toNat n + 3 * t (21 + w))
/-- ships: kinds, ports, days; ghosts know nothing; in a port a ship knows what the port knows -/
def shp (t : Nat → Int) : Prop := ∀ s : Nat, s < 4 → (s : Int) < t 2 → 1 ≤ t (29 + s) ∧ t (33 + s) < t 0 ∧ (t (37 + s) = 0 ∨ t 3 < t (37 + s)) ∧ (t (29 + s) = 5 → t (45 + s) = 0) ∧
  (t (37 + s) = 0 → ∀ n, n < 4 → bit (t (45 + s)) n → 0 ≤ kw t (t (33 + s)).toNat n) ∧ (t (37 + s) = 0 → t (29 + s) ≠ 5 → ∀ n, n < 4 → 0 ≤ kw t (t (33 + s)).toNat n → bit (t (45 + s)) n)
def qT (t : Nat → Int) : Prop := yT t ∧ (∀ w : Nat, w < 8 → (w : Int) < t 1 → t (5 + w) < t 0 ∧ t (13 + w) < t 0) ∧ shp t ∧ clo t ∧ (∀ p n : Nat, p < 6 → n < 4 → t 0 ≤ p → kw t p n < 0) ∧ 2 ≤ t 0
def oT (t : Nat → Int) : Prop := wT t ∧ t 3 ≤ 99 ∧ qT t
/-- a league's row out of a long one -/
def lrT (f : Nat → Int) (o : Nat) : Nat → Int := fun k => if k < 85 then f (o + k) else 0
theorem lrT_z (f : Nat → Int) (o : Nat) : z85 (lrT f o) := fun i hi => by unfold lrT; rw [if_neg (by omega)]
theorem cpT_lr {f g : Nat → Int} {o : Nat} (hg : z85 g) : cpT f o g 0 85 = lrT f o := by
  funext k
  unfold cpT lrT
  by_cases h : k < 85
  · rw [if_pos (by omega), if_pos h, show o + (k - 0) = o + k by omega]
  · rw [if_neg (by omega), if_neg h, hg k (by omega)]
theorem lrT_i {f : Nat → Int} {o k : Nat} (h : k < 85) : lrT f o k = f (o + k) := by unfold lrT; rw [if_pos h]
theorem lrT_o {f : Nat → Int} {o k : Nat} (h : ¬ k < 85) : lrT f o k = 0 := by unfold lrT; rw [if_neg h]
theorem lrT_cp {f g : Nat → Int} {o : Nat} (hf : z85 f) : lrT (cpT f 0 g o 85) o = f := by
  funext k
  by_cases h : k < 85
  · rw [lrT_i h]
    unfold cpT
    rw [if_pos (by omega), show 0 + (o + k - o) = k by omega]
  · rw [lrT_o h, hf k (by omega)]
theorem lrT_cn {f g : Nat → Int} {o q : Nat} (h : q + 85 ≤ o ∨ o + 85 ≤ q) : lrT (cpT f 0 g o 85) q = lrT g q := by
  funext k
  by_cases h2 : k < 85
  · rw [lrT_i h2, lrT_i h2]
    unfold cpT
    rw [if_neg (by omega)]
  · rw [lrT_o h2, lrT_o h2]
theorem lrT_dn {f : Nat → Int} {q : Nat} (h : q + 85 ≤ 1955) : lrT (dnT f 1955) q = lrT f (q + 85) := by
  funext k
  by_cases h2 : k < 85
  · rw [lrT_i h2, lrT_i h2]
    unfold dnT
    rw [if_pos (by omega), show q + k + 85 = q + 85 + k by omega]
  · rw [lrT_o h2, lrT_o h2]
/-- the league at a is that of t -/
def lgR (E : Nat → Nat → Int) (a : Nat) (t : Nat → Int) : Prop := RL0 E a t ∧ RD E a t
theorem RL0_fr {E E' : Nat → Nat → Int} {a : Nat} {t : Nat → Int} (h : RL0 E a t) (hf : ∀ b, a ≤ b → b ≤ a + 11 → E' b = E b) : RL0 E' a t := by
  unfold RL0 at h ⊢
  rw [hf a (by omega) (by omega), hf (a + 1) (by omega) (by omega), hf (a + 2) (by omega) (by omega), hf (a + 3) (by omega) (by omega), hf (a + 4) (by omega) (by omega), hf (a + 5) (by omega) (by omega), hf (a + 7) (by omega) (by omega), hf (a + 8) (by omega) (by omega), hf (a + 9) (by omega) (by omega), hf (a + 10) (by omega) (by omega), hf (a + 11) (by omega) (by omega)]
  exact h
theorem lgR_fr {E E' : Nat → Nat → Int} {a : Nat} {t : Nat → Int} (h : lgR E a t) (hf : ∀ b, a ≤ b → b ≤ a + 11 → E' b = E b) : lgR E' a t := by
  refine ⟨RL0_fr h.1 hf, ?_⟩
  have := h.2
  unfold RD at this ⊢
  rw [hf (a + 6) (by omega) (by omega)]
  exact this
theorem lgR_bc {E : Nat → Nat → Int} {a b : Nat} {t : Nat → Int} (h : lgR E b t) : lgR (bcE E a b) a t := ⟨RL0_bc h.1, RD_bc h.2⟩
/-- the place of the i-th latest act's league -/
abbrev acP (x i : Nat) : Nat := 42 + 12 * ((x + 23 - i) % 24)
/-- the acts: n of them, the next at x, over the reference's row f -/
def acR (E : Nat → Nat → Int) (n x : Nat) (f : Nat → Int) : Prop := E 40 2 = (n : Int) ∧ E 40 1 = (x : Int) ∧ x < 24 ∧ n ≤ 24 ∧ ∀ i, i < n → lgR E (acP x i) (lrT f (85 * (n - 1 - i))) ∧ oT (lrT f (85 * (n - 1 - i)))
theorem acR_fr {E E' : Nat → Nat → Int} {n x : Nat} {f : Nat → Int} (h : acR E n x f) (hf : ∀ b, 40 ≤ b → b ≤ 329 → E' b = E b) : acR E' n x f := by
  obtain ⟨h1, h2, h3, h4, h5⟩ := h
  refine ⟨by rw [hf 40 (by omega) (by omega)]; exact h1, by rw [hf 40 (by omega) (by omega)]; exact h2, h3, h4, fun i hi => ⟨lgR_fr (h5 i hi).1 (fun b hb hb2 => ?_), (h5 i hi).2⟩⟩
  have := Nat.mod_lt (x + 23 - i) (show 24 > 0 by omega)
  unfold acP at hb hb2
  exact hf b (by omega) (by omega)
theorem rb_0 {x : Nat} (h : x < 24) : am_rf am_S0 41 x = some (42 + 12 * x) := (am_lgB x h).2
/-- an act is kept: its league, the counts -/
theorem c_keep {d n x : Nat} {f : Nat → Int} {E : Nat → Nat → Int} (hA : acR E n x f) (hL : lgR E 28 (E 383)) (hO : oT (E 383)) : ∃ E' x', am_sem (d + 2) 2 [.ref 40, .ref 28] am_S0 (dI E) = some (none, am_S0, dI E') ∧ (∀ b, (b < 40 ∨ 329 < b) → E' b = E b) ∧ acR E' (if n = 24 then 24 else n + 1) x' (if n = 24 then cpT (E 383) 0 (dnT f 1955) 1955 85 else cpT (E 383) 0 f (85 * n) 85) := by
  obtain ⟨h1, h2, h3, h4, h5⟩ := hA
  have hx := am_lgB x h3
  have H1 := c_become (d := d) (a := 42 + 12 * x) (b := 28) (E := E) hx.1 am_lg28 (by omega)
  have fb := bcE_fr E (42 + 12 * x) 28
  have o40 : bcE E (42 + 12 * x) 28 40 = E 40 := fb 40 (by omega)
  have x1 : ∃ x' : Nat, x' < 24 ∧ (x' : Int) = (if (x : Int) + 1 < 24 then (x : Int) + 1 else 0) ∧ (∀ i, 1 ≤ i → i < 24 → (x' + 23 - i) % 24 = (x + 23 - (i - 1)) % 24 ∧ (x' + 23 - i) % 24 ≠ x) ∧ (x' + 23) % 24 = x := by
    by_cases c : x < 23
    · exact ⟨x + 1, by omega, by rw [if_pos (by omega)]; omega, fun i hi hi2 => ⟨by omega, by omega⟩, by omega⟩
    · exact ⟨0, by omega, by rw [if_neg (by omega)]; omega, fun i hi hi2 => ⟨by omega, by omega⟩, by omega⟩
  obtain ⟨x', y1, y2, y3, y4⟩ := x1
  have n1 : ∃ n' : Nat, n' = (if n = 24 then 24 else n + 1) ∧ (n' : Int) = (if (24 : Int) < (n : Int) + 1 then 24 else (n : Int) + 1) := ⟨_, rfl, by split <;> split <;> omega⟩
  obtain ⟨n', z1, z2⟩ := n1
  refine ⟨setR (bcE E (42 + 12 * x) 28) 40 (updI (updI (E 40) 1 x') 2 n'), x', mX0_keep rfl rfl ?_, fun b hb => ?_, ?_⟩
  · rw [y2, z2]
    simp (disch := first | omega | simp only [am_ci, am_cr, am_ca]) only [eX0_keep_0, eX0_keep_1, eX0_keep_4, eX0_keep_5, eX0_keep_8, eX0_keep_9, eX0_keep_10, eX0_keep_13, eX0_keep_14, eX0_keep_15, eX0_keep_18, eX0_keep_19, eX0_keep_20, eX0_keep_22, eX0_keep_25, eX0_keep_26, eX0_keep_29, eX0_keep_30, eX0_keep_31, eX0_keep_34, eX0_keep_35, eX0_keep_38, eX0_keep_39, eX0_keep_40, eX0_keep_43, eX0_keep_44, eX0_keep_45, eX0_keep_47, eX0_keep_50, eX0_keep_53, am_bi, Int.reduceEq, Int.reduceLT, Int.reduceLE, Int.reduceToNat, ite_self, Decidable.not_not, not_true_eq_false, not_false_eq_true, ↓reduceIte, am_ci, am_cr, am_ca, am_b0, am_b1, am_ts, am_tn, am_then_some, List.cons_append, List.nil_append, ne_eq, iI_lit, iI_add, iI_sub, iI_mul, iI_neg, iI_lt, iI_le, iI_eq, iI_in, iI_clz, dI_ap, dI_wr, setR_s, wE_R, setR_2, setR_n, setR_o, updI_s, updI_n, updI_2, tl_0, tl_1, tl_2, tl_3, tl_4, tl_5, tl_6, tl_7, tl_8, tl_9, tl_10, tl_11, tl_12, tl_13, tl_14, tl_15, tl_16, tn_3, tn_5, tn_13, tn_21, tn_29, tn_33, tn_37, tn_41, tn_45, tn_49, tn_53, tn_57, tn_61, tn_40, tn_p, tn_0, true_and, and_true, sk_0, sk_1, sk_2, sl_2, sk_3, sl_3, sk_4, sl_4, sk_5, sl_5, sk_6, sl_6, sk_7, sl_7, sk_8, sl_8, sk_9, sl_9, sk_10, sl_10, sk_11, sl_11, sk_12, sl_12, sk_13, sk_14, sl_14, sk_15, sk_40, sk_41, sl_41, sk_330, sl_330, sk_355, sk_356, sl_356, sk_357, sl_357, sk_358, sl_358, sk_359, sl_359, sk_360, sl_360, sk_361, sk_362, sl_362, sk_363, sk_376, sk_377, sl_377, sk_378, sk_379, sl_379, sk_380, sl_380, sk_381, sl_381, sk_382, sl_382, sk_383, sl_383, sk_384, sl_384, sk_385, sl_385, sk_386, sl_386, sk_387, sl_387, sk_388, sl_388, sk_389, sl_389, sk_390, sl_390, sk_391, sl_391, sk_392, sl_392, sk_393, sl_393, sk_394, sl_394, sr_0_0, sr_0_1, sr_0_2, sr_0_3, sr_0_4, sr_0_5, sr_0_6, sr_0_7, sr_0_8, sr_0_9, sr_1_0, sr_1_1, sr_1_2, sr_13_0, sr_15_0, sr_15_2, sr_40_0, sr_355_0, sr_355_1, sr_355_2, sr_355_3, sr_355_4, sr_355_5, sr_361_2, sr_361_5, sr_361_6, sr_363_0, sr_363_1, sr_376_0, sr_376_2, sr_378_0, sr_378_1, sr_378_2, sr_378_4, sr_378_8, sr_378_10, sr_378_11, sr_378_12, sr_378_14, sr_378_20, sr_378_21, sr_378_22, sr_378_23, sr_378_24, sr_378_25, sr_378_26, am_vs, hx.1.k, h1, h2, rb_0, am_lg28.k, H1, o40, iI_ite]
    all_goals ((repeat' split) <;> first | rfl | trivial | (exfalso; omega))
  · rw [setR_n (by omega)]; exact fb b (by omega)
  · rw [← z1]
    refine ⟨by rw [setR_s, updI_s], by rw [setR_s, updI_n (by omega), updI_s], y1, by rw [z1]; split <;> omega, fun i hi => ?_⟩
    have hz := hO.1.2
    have nz : n' = 24 ∧ n = 24 ∨ n' = n + 1 ∧ n < 24 := by rw [z1]; split <;> omega
    have hf0 : ∀ j, j < n' → lrT (if n = 24 then cpT (E 383) 0 (dnT f 1955) 1955 85 else cpT (E 383) 0 f (85 * n) 85) (85 * (n' - 1 - j)) = if j = 0 then E 383 else lrT f (85 * (n - 1 - (j - 1))) := by
      intro j hj
      rcases nz with ⟨e1, e2⟩ | ⟨e1, e2⟩
      · rw [if_pos e2]
        by_cases j0 : j = 0
        · subst j0
          rw [if_pos rfl, show 85 * (n' - 1 - 0) = 1955 by omega, lrT_cp hz]
        · rw [if_neg j0, lrT_cn (by omega), lrT_dn (by omega), show 85 * (n' - 1 - j) + 85 = 85 * (n - 1 - (j - 1)) by omega]
      · rw [if_neg (by omega)]
        by_cases j0 : j = 0
        · subst j0
          rw [if_pos rfl, show 85 * (n' - 1 - 0) = 85 * n by omega, lrT_cp hz]
        · rw [if_neg j0, lrT_cn (by omega), show 85 * (n' - 1 - j) = 85 * (n - 1 - (j - 1)) by omega]
    rw [hf0 i hi]
    by_cases i0 : i = 0
    · subst i0
      rw [if_pos rfl]
      refine ⟨?_, hO⟩
      have e : acP x' 0 = 42 + 12 * x := by unfold acP; omega
      rw [e]
      refine lgR_fr (lgR_bc (a := 42 + 12 * x) hL) (fun b hb hb2 => setR_n (by omega))
    · rw [if_neg i0]
      have hy := y3 i (by omega) (by omega)
      have e : acP x' i = acP x (i - 1) := by unfold acP; rw [hy.1]
      have h5' := h5 (i - 1) (by omega)
      rw [e]
      refine ⟨lgR_fr h5'.1 (fun b hb hb2 => ?_), h5'.2⟩
      have hm := Nat.mod_lt (x + 23 - (i - 1)) (show 24 > 0 by omega)
      unfold acP at hb hb2
      rw [setR_n (by omega)]
      exact fb b (by omega)
