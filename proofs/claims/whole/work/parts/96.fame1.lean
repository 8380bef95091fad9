/-! ===== fame: the table of earliest days ===== -/
/-- the ports it was first to, having come to p on day v -/
def sB (f : Nat → Int) (S p : Nat) (v : Int) : Nat := if v < f p then S ||| 2 ^ p else S
theorem sB_ge (f : Nat → Int) (S p : Nat) (v : Int) : S ≤ sB f S p v := by
  unfold sB; split
  · exact Nat.left_le_or
  · exact Nat.le_refl _
theorem sB_lt {f : Nat → Int} {S p N : Nat} {v : Int} (hS : S < 2 ^ N) (hp : p < N) : sB f S p v < 2 ^ N := by
  unfold sB; split
  · exact Nat.or_lt_two_pow hS (Nat.pow_lt_pow_right (by omega) hp)
  · exact hS
def cn (f : Nat → Int) (x : Int) : Nat → Nat
  | 0 => 0
  | k + 1 => cn f x k + if f k ≤ x then 1 else 0
theorem cn_le (f : Nat → Int) (x : Int) : ∀ k, cn f x k ≤ k
  | 0 => Nat.le_refl _
  | k + 1 => by
    have := cn_le f x k
    unfold cn; split <;> omega
theorem cn_mono {f g : Nat → Int} {x y : Int} (hx : x ≤ y) : ∀ k, (∀ q, q < k → g q ≤ f q) → cn f x k ≤ cn g y k
  | 0, _ => Nat.le_refl _
  | k + 1, h => by
    have ih := cn_mono (f := f) (g := g) hx k (fun q hq => h q (by omega))
    have := h k (by omega)
    unfold cn
    split <;> split <;> omega
theorem cn_one {f : Nat → Int} {x : Int} {a : Nat} : ∀ k, a < k → f a ≤ x → 1 ≤ cn f x k
  | 0, h, _ => by omega
  | k + 1, h, ha => by
    unfold cn
    by_cases e : a = k
    · subst e; rw [if_pos ha]; omega
    · have := cn_one (f := f) (x := x) k (by omega) ha
      omega
theorem cn_more {f g : Nat → Int} {x y : Int} {a : Nat} (hx : x ≤ y) (h1 : x < f a) (h2 : g a ≤ y) : ∀ k, a < k → (∀ q, q < k → g q ≤ f q) → cn f x k + 1 ≤ cn g y k
  | 0, h, _ => by omega
  | k + 1, h, hg => by
    unfold cn
    by_cases e : a = k
    · subst e
      have := cn_mono (f := f) (g := g) hx a (fun q hq => hg q (by omega))
      rw [if_neg (by omega), if_pos h2]; omega
    · have := cn_more (f := f) (g := g) hx h1 h2 k (by omega) (fun q hq => hg q (by omega))
      have := hg k (by omega)
      split <;> split <;> omega
section
variable (f : Nat → Int) (l : Int)
abbrev coB (S p : Nat) (v : Int) (h : Nat → Int) : Prop := v ≤ l ∧ v < h (6 * sB f S p v + p)
def coH (S p : Nat) (v : Int) (h : Nat → Int) : Nat → Int := if coB f l S p v h then updI h (6 * sB f S p v + p) v else h
def edg (h : Nat → Int) (S e b : Nat) (c : Int) : Prop := h (6 * S + e) + c ≤ l → h (6 * sB f S b (h (6 * S + e) + c) + b) ≤ h (6 * S + e) + c
def rk (h : Nat → Int) (S e : Nat) : Nat := cn (fun q => h (6 * S + q)) (h (6 * S + e)) 6
/-- each place is closed, or it stands far out -/
def Bx (S r : Nat) (P : Prop) (Q : Nat → Nat → Int → Prop) (h : Nat → Int) : Prop := ∀ e, e < 6 → (∀ b c, Q e b c → edg f l h S e b c) ∨ (P ∧ r ≤ rk h S e)
end
section
variable {f : Nat → Int} {l : Int} {S : Nat} {h h' : Nat → Int}
theorem coH_le (S p : Nat) (v : Int) (h : Nat → Int) (i : Nat) : coH f l S p v h i ≤ h i := by
  unfold coH
  split
  · rename_i c
    unfold updI
    split
    · rename_i e; rw [e]; have := c.2; omega
    · omega
  · omega
theorem coH_lo (S p : Nat) (v : Int) (h : Nat → Int) {i : Nat} (hi : i < 6 * S) : coH f l S p v h i = h i := by
  have := sB_ge f S p v
  unfold coH
  split
  · rw [updI_n (by omega)]
  · rfl
theorem edg_m {e b : Nat} {c : Int} (hl : ∀ i, h' i ≤ h i) (he : h' (6 * S + e) = h (6 * S + e)) (x : edg f l h S e b c) : edg f l h' S e b c := by
  unfold edg at *
  rw [he]
  intro y
  have := x y
  have := hl (6 * sB f S b (h (6 * S + e) + c) + b)
  omega
theorem rk_m {e : Nat} (hl : ∀ i, h' i ≤ h i) (he : h' (6 * S + e) = h (6 * S + e)) : rk h S e ≤ rk h' S e := by
  unfold rk
  rw [he]
  exact cn_mono (Int.le_refl _) 6 (fun q _ => hl _)
/-- one coming -/
theorem co_ed {e b : Nat} {c : Int} (hb : b < 6) (he : e < 6) (hne : b ≠ e) : edg f l (coH f l S b (h (6 * S + e) + c) h) S e b c := by
  have ge := sB_ge f S b (h (6 * S + e) + c)
  have e1 : coH f l S b (h (6 * S + e) + c) h (6 * S + e) = h (6 * S + e) := by
    unfold coH
    split
    · rw [updI_n (by omega)]
    · rfl
  unfold edg
  rw [e1]
  intro y
  unfold coH
  split
  · rw [updI_s]; omega
  · rename_i x
    by_cases z : h (6 * S + e) + c < h (6 * sB f S b (h (6 * S + e) + c) + b)
    · exact absurd ⟨y, z⟩ x
    · omega
theorem Bx_co {r : Nat} {P P' : Prop} {Q Q' : Nat → Nat → Int → Prop} {e b : Nat} {c : Int} (hb : b < 6) (he : e < 6) (hne : b ≠ e) (hc : 1 ≤ c) (hP : P → P') (hP2 : coB f l S b (h (6 * S + e) + c) h → P') (hQ : ∀ e' b' c', Q' e' b' c' → Q e' b' c' ∨ (e' = e ∧ b' = b ∧ c' = c)) (hr : coB f l S b (h (6 * S + e) + c) h → r ≤ rk h S e + 1) (hB : Bx f l S r P Q h) : Bx f l S r P' Q' (coH f l S b (h (6 * S + e) + c) h) := by
  have ge := sB_ge f S b (h (6 * S + e) + c)
  have hle := coH_le (f := f) (l := l) S b (h (6 * S + e) + c) h
  have hed := co_ed (f := f) (l := l) (S := S) (h := h) (c := c) hb he hne
  intro p hp
  by_cases hs : coH f l S b (h (6 * S + e) + c) h (6 * S + p) = h (6 * S + p)
  · rcases hB p hp with x | ⟨x, y⟩
    · left
      intro b' c' hq
      rcases hQ p b' c' hq with z | ⟨z1, z2, z3⟩
      · exact edg_m hle hs (x b' c' z)
      · rw [z1, z2, z3]; exact hed
    · right
      exact ⟨hP x, Nat.le_trans y (rk_m hle hs)⟩
  · right
    by_cases cb : coB f l S b (h (6 * S + e) + c) h
    · have eh : coH f l S b (h (6 * S + e) + c) h = updI h (6 * sB f S b (h (6 * S + e) + c) + b) (h (6 * S + e) + c) := by unfold coH; rw [if_pos cb]
      have eb : 6 * S + p = 6 * sB f S b (h (6 * S + e) + c) + b := by
        apply Classical.byContradiction
        intro hx
        rw [eh, updI_n hx] at hs
        exact hs rfl
      have pb : p = b := by omega
      subst pb
      have es : sB f S p (h (6 * S + e) + c) = S := by omega
      have cb2 := cb.2
      rw [es] at cb2 eh
      refine ⟨hP2 cb, Nat.le_trans (hr cb) ?_⟩
      unfold rk
      refine cn_more (a := p) ?_ ?_ (Int.le_refl _) 6 hp (fun q _ => hle _)
      · rw [eh, updI_s]; omega
      · show h (6 * S + e) < h (6 * S + p)
        omega
    · exfalso
      apply hs
      unfold coH
      rw [if_neg cb]
/-- who is not closed stands far out, so it may push others out -/
theorem Bx_r {r : Nat} {Q : Nat → Nat → Int → Prop} {e b : Nat} {c : Int} (he : e < 6) (hB : Bx f l S r True Q h) (hQ : Q e b c) (cb : coB f l S b (h (6 * S + e) + c) h) : r ≤ rk h S e := by
  rcases hB e he with x | ⟨-, y⟩
  · exfalso
    have := x b c hQ cb.1
    have := cb.2
    omega
  · exact y
theorem rk_6 (h : Nat → Int) (S e : Nat) : rk h S e ≤ 6 := cn_le _ _ 6
theorem rk_1 (h : Nat → Int) (S : Nat) {e : Nat} (he : e < 6) : 1 ≤ rk h S e := cn_one (a := e) 6 he (Int.le_refl _)
end
/-- the ways' edges below k -/
def QW (t : Nat → Int) (s k : Nat) (e b : Nat) (c : Int) : Prop := ∃ w : Nat, w < k ∧ (((t (5 + w)).toNat = e ∧ (t (13 + w)).toNat = b) ∨ ((t (13 + w)).toNat = e ∧ (t (5 + w)).toNat = b)) ∧ c = tkT t s w
/-- what the table holds is well grounded -/
def Vl (Dm : Nat → Nat → Int → Prop) (N : Nat) (l : Int) (h : Nat → Int) : Prop := ∀ S p, S < 64 → p < 6 → h (6 * S + p) = 1000000 ∨ ((0 ≤ h (6 * S + p) ∧ h (6 * S + p) ≤ l) ∧ Dm S p (h (6 * S + p)) ∧ S < 2 ^ N ∧ p < N)
theorem Vl_b {Dm : Nat → Nat → Int → Prop} {N : Nat} {l : Int} {h : Nat → Int} (hl : l ≤ 200) (H : Vl Dm N l h) {i : Nat} (hi : i < 384) : 0 ≤ h i ∧ h i ≤ 1000000 := by
  have := H (i / 6) (i % 6) (by omega) (Nat.mod_lt _ (by omega))
  rw [Nat.div_add_mod] at this
  omega
theorem Vl_co {Dm : Nat → Nat → Int → Prop} {N : Nat} {f : Nat → Int} {l : Int} {h : Nat → Int} {S p : Nat} {v : Int} (H : Vl Dm N l h) (hS : S < 2 ^ N) (hp : p < N) (h6 : N ≤ 6) (hv : 0 ≤ v) (hD : v ≤ l → Dm (sB f S p v) p v) : Vl Dm N l (coH f l S p v h) := by
  intro S' p' hS' hp'
  unfold coH
  split
  · rename_i c
    unfold updI
    split
    · rename_i e
      have e1 : S' = sB f S p v ∧ p' = p := by omega
      right
      refine ⟨⟨hv, c.1⟩, ?_, ?_, ?_⟩
      · rw [e1.1, e1.2]; exact hD c.1
      · rw [e1.1]; exact sB_lt hS hp
      · rw [e1.2]; exact hp
    · exact H S' p' hS' hp'
  · exact H S' p' hS' hp'
/-- Renown's state -/
def rnE (E : Nat → Nat → Int) (m h : Nat → Int) (fl : Int) : Nat → Nat → Int := setR (setR E 362 h) 361 (updI m 4 fl)
theorem c_come {d S p : Nat} {v fl l : Int} {f m h : Nat → Int} {E : Nat → Nat → Int} (hS : S < 64) (hp : p < 6) (hv : 0 ≤ v ∧ v ≤ 1100000) (hf : E 356 = f) (hfb : 0 ≤ f p ∧ f p ≤ 1000000) (hm : m 3 = l) (hl : 0 ≤ l ∧ l ≤ 200) (hh : ∀ i, i < 384 → 0 ≤ h i ∧ h i ≤ 1000000) : am_sem (d + 1) 68 [.ref 361, .int (iI S), .int (iI p), .int (iI v)] am_S0 (dI (rnE E m h fl)) = some (none, am_S0, dI (rnE E m (coH f l S p v h) (if coB f l S p v h then 1 else fl))) := by
  have sl := sB_lt (f := f) (v := v) (N := 6) (show S < 2 ^ 6 by omega) hp
  have p64 : (2 : Nat) ^ p ≤ 32 := Nat.pow_le_pow_right (show 0 < 2 by omega) (show p ≤ 5 by omega)
  have i1 := iI_shl (k := p) (by omega)
  have i2 := iI_or S (2 ^ p)
  have e356 : rnE E m h fl 356 p = f p := by unfold rnE; rw [setR_n (by omega), setR_n (by omega), hf]
  have e361 : rnE E m h fl 361 = updI m 4 fl := by unfold rnE; rw [setR_s]
  have e362 : rnE E m h fl 362 = h := by unfold rnE; rw [setR_n (by omega), setR_s]
  have u3 : updI m 4 fl 3 = l := by rw [updI_n (by omega), hm]
  have fin : ∀ g : Nat → Int, setR (setR (rnE E m h fl) 362 g) 361 (updI (updI m 4 fl) 4 1) = rnE E m g 1 := fun g => by
    unfold rnE
    rw [setR_o (by omega), setR_o (by omega), updI_2]
  refine mX5_come rfl rfl ?_
  by_cases c1 : v ≤ l
  · by_cases c2 : v < f p
    · have es : sB f S p v = S ||| 2 ^ p := by unfold sB; rw [if_pos c2]
      rw [es] at sl
      have hb := hh (6 * (S ||| 2 ^ p) + p) (by omega)
      have tn : (((S ||| 2 ^ p : Nat) : Int) * 6 + (p : Int)).toNat = 6 * (S ||| 2 ^ p) + p := by omega
      unfold coH coB
      rw [es]
      generalize S ||| 2 ^ p = B at *
      by_cases c3 : v < h (6 * B + p)
      · rw [if_pos ⟨c1, c3⟩, if_pos ⟨c1, c3⟩, ← fin]
        simp (disch := first | omega | simp only [am_ci, am_cr, am_ca]) only [eX5_come_0, eX5_come_1, eX5_come_2, eX5_come_5, eX5_come_8, eX5_come_9, eX5_come_10, eX5_come_11, eX5_come_14, eX5_come_17, eX5_come_18, eX5_come_19, eX5_come_22, eX5_come_23, eX5_come_24, eX5_come_25, eX5_come_26, eX5_come_27, eX5_come_30, eX5_come_31, eX5_come_33, eX5_come_35, eX5_come_37, eX5_come_38, eX5_come_39, eX5_come_40, eX5_come_42, eX5_come_43, eX5_come_44, eX5_come_47, eX5_come_49, eX5_come_50, eX5_come_53, eX5_come_54, eX5_come_57, eX5_come_59, eX5_come_60, eX5_come_61, eX5_come_62, eX5_come_63, eX5_come_66, am_bi, Int.reduceEq, Int.reduceLT, Int.reduceLE, Int.reduceToNat, ite_self, Decidable.not_not, not_true_eq_false, not_false_eq_true, ↓reduceIte, am_ci, am_cr, am_ca, am_b0, am_b1, am_ts, am_tn, am_then_some, List.cons_append, List.nil_append, ne_eq, iI_lit, iI_add, iI_sub, iI_mul, iI_neg, iI_lt, iI_le, iI_eq, iI_in, iI_clz, dI_ap, dI_wr, setR_s, wE_R, setR_2, setR_n, setR_o, updI_s, updI_n, updI_2, tl_0, tl_1, tl_2, tl_3, tl_4, tl_5, tl_6, tl_7, tl_8, tl_9, tl_10, tl_11, tl_12, tl_13, tl_14, tl_15, tl_16, tn_3, tn_5, tn_13, tn_21, tn_29, tn_33, tn_37, tn_41, tn_45, tn_49, tn_53, tn_57, tn_61, tn_40, tn_p, tn_0, true_and, and_true, sk_0, sk_1, sk_2, sl_2, sk_3, sl_3, sk_4, sl_4, sk_5, sl_5, sk_6, sl_6, sk_7, sl_7, sk_8, sl_8, sk_9, sl_9, sk_10, sl_10, sk_11, sl_11, sk_12, sl_12, sk_13, sk_14, sl_14, sk_15, sk_40, sk_41, sl_41, sk_330, sl_330, sk_355, sk_356, sl_356, sk_357, sl_357, sk_358, sl_358, sk_359, sl_359, sk_360, sl_360, sk_361, sk_362, sl_362, sk_363, sk_376, sk_377, sl_377, sk_378, sk_379, sl_379, sk_380, sl_380, sk_381, sl_381, sk_382, sl_382, sk_383, sl_383, sk_384, sl_384, sk_385, sl_385, sk_386, sl_386, sk_387, sl_387, sk_388, sl_388, sk_389, sl_389, sk_390, sl_390, sk_391, sl_391, sk_392, sl_392, sk_393, sl_393, sk_394, sl_394, sr_0_0, sr_0_1, sr_0_2, sr_0_3, sr_0_4, sr_0_5, sr_0_6, sr_0_7, sr_0_8, sr_0_9, sr_1_0, sr_1_1, sr_1_2, sr_13_0, sr_15_0, sr_15_2, sr_40_0, sr_355_0, sr_355_1, sr_355_2, sr_355_3, sr_355_4, sr_355_5, sr_361_2, sr_361_5, sr_361_6, sr_363_0, sr_363_1, sr_376_0, sr_376_2, sr_378_0, sr_378_1, sr_378_2, sr_378_4, sr_378_8, sr_378_10, sr_378_11, sr_378_12, sr_378_14, sr_378_20, sr_378_21, sr_378_22, sr_378_23, sr_378_24, sr_378_25, sr_378_26, am_vs, e356, e361, e362, u3, i1, i2, tn]
        repeat (first | rw [if_pos (by omega)] | rw [if_neg (by omega)])
        trivial
      · rw [if_neg (fun x => c3 x.2), if_neg (fun x => c3 x.2)]
        simp (disch := first | omega | simp only [am_ci, am_cr, am_ca]) only [eX5_come_0, eX5_come_1, eX5_come_2, eX5_come_5, eX5_come_8, eX5_come_9, eX5_come_10, eX5_come_11, eX5_come_14, eX5_come_17, eX5_come_18, eX5_come_19, eX5_come_22, eX5_come_23, eX5_come_24, eX5_come_25, eX5_come_26, eX5_come_27, eX5_come_30, eX5_come_31, eX5_come_33, eX5_come_35, eX5_come_37, eX5_come_38, eX5_come_39, eX5_come_40, eX5_come_42, eX5_come_43, eX5_come_44, eX5_come_47, eX5_come_49, eX5_come_50, eX5_come_53, eX5_come_54, eX5_come_57, eX5_come_59, eX5_come_60, eX5_come_61, eX5_come_62, eX5_come_63, eX5_come_66, am_bi, Int.reduceEq, Int.reduceLT, Int.reduceLE, Int.reduceToNat, ite_self, Decidable.not_not, not_true_eq_false, not_false_eq_true, ↓reduceIte, am_ci, am_cr, am_ca, am_b0, am_b1, am_ts, am_tn, am_then_some, List.cons_append, List.nil_append, ne_eq, iI_lit, iI_add, iI_sub, iI_mul, iI_neg, iI_lt, iI_le, iI_eq, iI_in, iI_clz, dI_ap, dI_wr, setR_s, wE_R, setR_2, setR_n, setR_o, updI_s, updI_n, updI_2, tl_0, tl_1, tl_2, tl_3, tl_4, tl_5, tl_6, tl_7, tl_8, tl_9, tl_10, tl_11, tl_12, tl_13, tl_14, tl_15, tl_16, tn_3, tn_5, tn_13, tn_21, tn_29, tn_33, tn_37, tn_41, tn_45, tn_49, tn_53, tn_57, tn_61, tn_40, tn_p, tn_0, true_and, and_true, sk_0, sk_1, sk_2, sl_2, sk_3, sl_3, sk_4, sl_4, sk_5, sl_5, sk_6, sl_6, sk_7, sl_7, sk_8, sl_8, sk_9, sl_9, sk_10, sl_10, sk_11, sl_11, sk_12, sl_12, sk_13, sk_14, sl_14, sk_15, sk_40, sk_41, sl_41, sk_330, sl_330, sk_355, sk_356, sl_356, sk_357, sl_357, sk_358, sl_358, sk_359, sl_359, sk_360, sl_360, sk_361, sk_362, sl_362, sk_363, sk_376, sk_377, sl_377, sk_378, sk_379, sl_379, sk_380, sl_380, sk_381, sl_381, sk_382, sl_382, sk_383, sl_383, sk_384, sl_384, sk_385, sl_385, sk_386, sl_386, sk_387, sl_387, sk_388, sl_388, sk_389, sl_389, sk_390, sl_390, sk_391, sl_391, sk_392, sl_392, sk_393, sl_393, sk_394, sl_394, sr_0_0, sr_0_1, sr_0_2, sr_0_3, sr_0_4, sr_0_5, sr_0_6, sr_0_7, sr_0_8, sr_0_9, sr_1_0, sr_1_1, sr_1_2, sr_13_0, sr_15_0, sr_15_2, sr_40_0, sr_355_0, sr_355_1, sr_355_2, sr_355_3, sr_355_4, sr_355_5, sr_361_2, sr_361_5, sr_361_6, sr_363_0, sr_363_1, sr_376_0, sr_376_2, sr_378_0, sr_378_1, sr_378_2, sr_378_4, sr_378_8, sr_378_10, sr_378_11, sr_378_12, sr_378_14, sr_378_20, sr_378_21, sr_378_22, sr_378_23, sr_378_24, sr_378_25, sr_378_26, am_vs, e356, e361, e362, u3, i1, i2, tn]
        repeat (first | rw [if_pos (by omega)] | rw [if_neg (by omega)])
        trivial
    · have es : sB f S p v = S := by unfold sB; rw [if_neg c2]
      have hb := hh (6 * S + p) (by omega)
      have tn : ((S : Int) * 6 + (p : Int)).toNat = 6 * S + p := by omega
      unfold coH coB
      rw [es]
      by_cases c3 : v < h (6 * S + p)
      · rw [if_pos ⟨c1, c3⟩, if_pos ⟨c1, c3⟩, ← fin]
        simp (disch := first | omega | simp only [am_ci, am_cr, am_ca]) only [eX5_come_0, eX5_come_1, eX5_come_2, eX5_come_5, eX5_come_8, eX5_come_9, eX5_come_10, eX5_come_11, eX5_come_14, eX5_come_17, eX5_come_18, eX5_come_19, eX5_come_22, eX5_come_23, eX5_come_24, eX5_come_25, eX5_come_26, eX5_come_27, eX5_come_30, eX5_come_31, eX5_come_33, eX5_come_35, eX5_come_37, eX5_come_38, eX5_come_39, eX5_come_40, eX5_come_42, eX5_come_43, eX5_come_44, eX5_come_47, eX5_come_49, eX5_come_50, eX5_come_53, eX5_come_54, eX5_come_57, eX5_come_59, eX5_come_60, eX5_come_61, eX5_come_62, eX5_come_63, eX5_come_66, am_bi, Int.reduceEq, Int.reduceLT, Int.reduceLE, Int.reduceToNat, ite_self, Decidable.not_not, not_true_eq_false, not_false_eq_true, ↓reduceIte, am_ci, am_cr, am_ca, am_b0, am_b1, am_ts, am_tn, am_then_some, List.cons_append, List.nil_append, ne_eq, iI_lit, iI_add, iI_sub, iI_mul, iI_neg, iI_lt, iI_le, iI_eq, iI_in, iI_clz, dI_ap, dI_wr, setR_s, wE_R, setR_2, setR_n, setR_o, updI_s, updI_n, updI_2, tl_0, tl_1, tl_2, tl_3, tl_4, tl_5, tl_6, tl_7, tl_8, tl_9, tl_10, tl_11, tl_12, tl_13, tl_14, tl_15, tl_16, tn_3, tn_5, tn_13, tn_21, tn_29, tn_33, tn_37, tn_41, tn_45, tn_49, tn_53, tn_57, tn_61, tn_40, tn_p, tn_0, true_and, and_true, sk_0, sk_1, sk_2, sl_2, sk_3, sl_3, sk_4, sl_4, sk_5, sl_5, sk_6, sl_6, sk_7, sl_7, sk_8, sl_8, sk_9, sl_9, sk_10, sl_10, sk_11, sl_11, sk_12, sl_12, sk_13, sk_14, sl_14, sk_15, sk_40, sk_41, sl_41, sk_330, sl_330, sk_355, sk_356, sl_356, sk_357, sl_357, sk_358, sl_358, sk_359, sl_359, sk_360, sl_360, sk_361, sk_362, sl_362, sk_363, sk_376, sk_377, sl_377, sk_378, sk_379, sl_379, sk_380, sl_380, sk_381, sl_381, sk_382, sl_382, sk_383, sl_383, sk_384, sl_384, sk_385, sl_385, sk_386, sl_386, sk_387, sl_387, sk_388, sl_388, sk_389, sl_389, sk_390, sl_390, sk_391, sl_391, sk_392, sl_392, sk_393, sl_393, sk_394, sl_394, sr_0_0, sr_0_1, sr_0_2, sr_0_3, sr_0_4, sr_0_5, sr_0_6, sr_0_7, sr_0_8, sr_0_9, sr_1_0, sr_1_1, sr_1_2, sr_13_0, sr_15_0, sr_15_2, sr_40_0, sr_355_0, sr_355_1, sr_355_2, sr_355_3, sr_355_4, sr_355_5, sr_361_2, sr_361_5, sr_361_6, sr_363_0, sr_363_1, sr_376_0, sr_376_2, sr_378_0, sr_378_1, sr_378_2, sr_378_4, sr_378_8, sr_378_10, sr_378_11, sr_378_12, sr_378_14, sr_378_20, sr_378_21, sr_378_22, sr_378_23, sr_378_24, sr_378_25, sr_378_26, am_vs, e356, e361, e362, u3, tn]
        repeat (first | rw [if_pos (by omega)] | rw [if_neg (by omega)])
        trivial
      · rw [if_neg (fun x => c3 x.2), if_neg (fun x => c3 x.2)]
        simp (disch := first | omega | simp only [am_ci, am_cr, am_ca]) only [eX5_come_0, eX5_come_1, eX5_come_2, eX5_come_5, eX5_come_8, eX5_come_9, eX5_come_10, eX5_come_11, eX5_come_14, eX5_come_17, eX5_come_18, eX5_come_19, eX5_come_22, eX5_come_23, eX5_come_24, eX5_come_25, eX5_come_26, eX5_come_27, eX5_come_30, eX5_come_31, eX5_come_33, eX5_come_35, eX5_come_37, eX5_come_38, eX5_come_39, eX5_come_40, eX5_come_42, eX5_come_43, eX5_come_44, eX5_come_47, eX5_come_49, eX5_come_50, eX5_come_53, eX5_come_54, eX5_come_57, eX5_come_59, eX5_come_60, eX5_come_61, eX5_come_62, eX5_come_63, eX5_come_66, am_bi, Int.reduceEq, Int.reduceLT, Int.reduceLE, Int.reduceToNat, ite_self, Decidable.not_not, not_true_eq_false, not_false_eq_true, ↓reduceIte, am_ci, am_cr, am_ca, am_b0, am_b1, am_ts, am_tn, am_then_some, List.cons_append, List.nil_append, ne_eq, iI_lit, iI_add, iI_sub, iI_mul, iI_neg, iI_lt, iI_le, iI_eq, iI_in, iI_clz, dI_ap, dI_wr, setR_s, wE_R, setR_2, setR_n, setR_o, updI_s, updI_n, updI_2, tl_0, tl_1, tl_2, tl_3, tl_4, tl_5, tl_6, tl_7, tl_8, tl_9, tl_10, tl_11, tl_12, tl_13, tl_14, tl_15, tl_16, tn_3, tn_5, tn_13, tn_21, tn_29, tn_33, tn_37, tn_41, tn_45, tn_49, tn_53, tn_57, tn_61, tn_40, tn_p, tn_0, true_and, and_true, sk_0, sk_1, sk_2, sl_2, sk_3, sl_3, sk_4, sl_4, sk_5, sl_5, sk_6, sl_6, sk_7, sl_7, sk_8, sl_8, sk_9, sl_9, sk_10, sl_10, sk_11, sl_11, sk_12, sl_12, sk_13, sk_14, sl_14, sk_15, sk_40, sk_41, sl_41, sk_330, sl_330, sk_355, sk_356, sl_356, sk_357, sl_357, sk_358, sl_358, sk_359, sl_359, sk_360, sl_360, sk_361, sk_362, sl_362, sk_363, sk_376, sk_377, sl_377, sk_378, sk_379, sl_379, sk_380, sl_380, sk_381, sl_381, sk_382, sl_382, sk_383, sl_383, sk_384, sl_384, sk_385, sl_385, sk_386, sl_386, sk_387, sl_387, sk_388, sl_388, sk_389, sl_389, sk_390, sl_390, sk_391, sl_391, sk_392, sl_392, sk_393, sl_393, sk_394, sl_394, sr_0_0, sr_0_1, sr_0_2, sr_0_3, sr_0_4, sr_0_5, sr_0_6, sr_0_7, sr_0_8, sr_0_9, sr_1_0, sr_1_1, sr_1_2, sr_13_0, sr_15_0, sr_15_2, sr_40_0, sr_355_0, sr_355_1, sr_355_2, sr_355_3, sr_355_4, sr_355_5, sr_361_2, sr_361_5, sr_361_6, sr_363_0, sr_363_1, sr_376_0, sr_376_2, sr_378_0, sr_378_1, sr_378_2, sr_378_4, sr_378_8, sr_378_10, sr_378_11, sr_378_12, sr_378_14, sr_378_20, sr_378_21, sr_378_22, sr_378_23, sr_378_24, sr_378_25, sr_378_26, am_vs, e356, e361, e362, u3, tn]
        repeat (first | rw [if_pos (by omega)] | rw [if_neg (by omega)])
        trivial
  · unfold coH coB
    rw [if_neg (fun x => c1 x.1), if_neg (fun x => c1 x.1)]
    simp (disch := first | omega | simp only [am_ci, am_cr, am_ca]) only [eX5_come_0, eX5_come_1, eX5_come_2, eX5_come_5, eX5_come_8, eX5_come_9, eX5_come_10, eX5_come_11, eX5_come_14, eX5_come_17, eX5_come_18, eX5_come_19, eX5_come_22, eX5_come_23, eX5_come_24, eX5_come_25, eX5_come_26, eX5_come_27, eX5_come_30, eX5_come_31, eX5_come_33, eX5_come_35, eX5_come_37, eX5_come_38, eX5_come_39, eX5_come_40, eX5_come_42, eX5_come_43, eX5_come_44, eX5_come_47, eX5_come_49, eX5_come_50, eX5_come_53, eX5_come_54, eX5_come_57, eX5_come_59, eX5_come_60, eX5_come_61, eX5_come_62, eX5_come_63, eX5_come_66, am_bi, Int.reduceEq, Int.reduceLT, Int.reduceLE, Int.reduceToNat, ite_self, Decidable.not_not, not_true_eq_false, not_false_eq_true, ↓reduceIte, am_ci, am_cr, am_ca, am_b0, am_b1, am_ts, am_tn, am_then_some, List.cons_append, List.nil_append, ne_eq, iI_lit, iI_add, iI_sub, iI_mul, iI_neg, iI_lt, iI_le, iI_eq, iI_in, iI_clz, dI_ap, dI_wr, setR_s, wE_R, setR_2, setR_n, setR_o, updI_s, updI_n, updI_2, tl_0, tl_1, tl_2, tl_3, tl_4, tl_5, tl_6, tl_7, tl_8, tl_9, tl_10, tl_11, tl_12, tl_13, tl_14, tl_15, tl_16, tn_3, tn_5, tn_13, tn_21, tn_29, tn_33, tn_37, tn_41, tn_45, tn_49, tn_53, tn_57, tn_61, tn_40, tn_p, tn_0, true_and, and_true, sk_0, sk_1, sk_2, sl_2, sk_3, sl_3, sk_4, sl_4, sk_5, sl_5, sk_6, sl_6, sk_7, sl_7, sk_8, sl_8, sk_9, sl_9, sk_10, sl_10, sk_11, sl_11, sk_12, sl_12, sk_13, sk_14, sl_14, sk_15, sk_40, sk_41, sl_41, sk_330, sl_330, sk_355, sk_356, sl_356, sk_357, sl_357, sk_358, sl_358, sk_359, sl_359, sk_360, sl_360, sk_361, sk_362, sl_362, sk_363, sk_376, sk_377, sl_377, sk_378, sk_379, sl_379, sk_380, sl_380, sk_381, sl_381, sk_382, sl_382, sk_383, sl_383, sk_384, sl_384, sk_385, sl_385, sk_386, sl_386, sk_387, sl_387, sk_388, sl_388, sk_389, sl_389, sk_390, sl_390, sk_391, sl_391, sk_392, sl_392, sk_393, sl_393, sk_394, sl_394, sr_0_0, sr_0_1, sr_0_2, sr_0_3, sr_0_4, sr_0_5, sr_0_6, sr_0_7, sr_0_8, sr_0_9, sr_1_0, sr_1_1, sr_1_2, sr_13_0, sr_15_0, sr_15_2, sr_40_0, sr_355_0, sr_355_1, sr_355_2, sr_355_3, sr_355_4, sr_355_5, sr_361_2, sr_361_5, sr_361_6, sr_363_0, sr_363_1, sr_376_0, sr_376_2, sr_378_0, sr_378_1, sr_378_2, sr_378_4, sr_378_8, sr_378_10, sr_378_11, sr_378_12, sr_378_14, sr_378_20, sr_378_21, sr_378_22, sr_378_23, sr_378_24, sr_378_25, sr_378_26, am_vs, e361, u3]
    repeat (first | rw [if_pos (by omega)] | rw [if_neg (by omega)])
    trivial
