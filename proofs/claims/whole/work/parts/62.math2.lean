/-! ===== what a day does to what is known, all of it ===== -/
theorem mid_u {t u : Nat → Int} {y : Int} (h : mid t y u) {i : Nat} (hi : i < 61) {z : Int} : mid t y (updI u i z) := by
  intro p n hp hn
  show (_ → updI u i z (61 + 4 * p + n) = _) ∧ (_ → updI u i z (61 + 4 * p + n) < 0 ∨ (updI u i z (61 + 4 * p + n) = y ∧ _))
  rw [updI_n (by omega)]
  exact h p n hp hn
section
variable {t A : Nat → Int} {m : Int}
theorem mid_sh (hA : mid t (t 3 + 1) A) (oA : ∀ i, i < 61 → i ≠ 3 → A i = t i) (o3 : A 3 = t 3 + 1) (hb : bT t) : ∀ k : Nat, k ≤ 4 → (k : Int) ≤ t 2 → mid t (t 3 + 1) (shT A m k).1
  | 0, _, _ => hA
  | k + 1, hk, hk2 => by
    have ih := mid_sh hA oA o3 hb k (by omega) (by omega)
    have e37 : (shT A m k).1 (37 + k) = t (37 + k) := by rw [shT_37 (by omega) k (by omega), if_neg (by omega), oA _ (by omega) (by omega)]
    have e3 : (shT A m k).1 3 = t 3 + 1 := by rw [shT_o _ _ (by omega) k (by omega), o3]
    have e49 : (shT A m k).1 (49 + k) = t (49 + k) := by rw [shT_o _ _ (by omega) k (by omega), oA _ (by omega) (by omega)]
    have e33 : (shT A m k).1 (33 + k) = t (33 + k) := by rw [shT_o _ _ (by omega) k (by omega), oA _ (by omega) (by omega)]
    have e45 : (shT A m k).1 (45 + k) = t (45 + k) := by rw [shT_o _ _ (by omega) k (by omega), oA _ (by omega) (by omega)]
    have hp := (hb.2.2.2.2.2.2.2.1 k (by omega)).2.1
    rw [shT_s, e37, e3, e49, e33]
    split
    · rename_i c
      split
      · rename_i c2
        exact mid_te (mid_u ih (by omega)) (by rw [updI_n (by omega), e3]) (by omega) (by omega) c (by omega) c2 (by rw [updI_n (by omega), e45])
      · exact mid_u ih (by omega)
    · exact ih
theorem keep_sh {q n : Nat} (hn : n < 4) {j : Nat} (h : 0 ≤ kw (shT A m j).1 q n) : ∀ k, j ≤ k → k ≤ 4 → kw (shT A m k).1 q n = kw (shT A m j).1 q n
  | 0, hj, _ => by rw [show j = 0 by omega]
  | k + 1, hj, hk => by
    by_cases e : j = k + 1
    · rw [e]
    · have ih := keep_sh hn h k (by omega) (by omega)
      have e1 : kw (updI (shT A m k).1 (37 + k) 0) q n = kw (shT A m k).1 q n := updI_n (by omega)
      rw [shT_s]
      split
      · split
        · simp only
          rw [keep_te (by omega) hn (by rw [e1]; omega), e1, ih]
        · simp only
          rw [e1, ih]
      · exact ih
theorem done_sh (oA : ∀ i, i < 61 → i ≠ 3 → A i = t i) (o3 : A 3 = t 3 + 1) (hb : bT t) {s p n : Nat} (hs : s < 4) (hn : n < 4) (hd : t (37 + s) = t 3 + 1) (hp : t (33 + s) = (p : Int)) (hm : t (49 + s) = 0) (hbit : bit (t (45 + s)) n) : 0 ≤ kw (shT A m (s + 1)).1 p n := by
  have a3 := hb.2.2.2.2.1
  have e37 : (shT A m s).1 (37 + s) = t (37 + s) := by rw [shT_37 (by omega) s (by omega), if_neg (by omega), oA _ (by omega) (by omega)]
  have e3 : (shT A m s).1 3 = t 3 + 1 := by rw [shT_o _ _ (by omega) s (by omega), o3]
  have e49 : (shT A m s).1 (49 + s) = t (49 + s) := by rw [shT_o _ _ (by omega) s (by omega), oA _ (by omega) (by omega)]
  have e33 : (shT A m s).1 (33 + s) = t (33 + s) := by rw [shT_o _ _ (by omega) s (by omega), oA _ (by omega) (by omega)]
  have e45 : (shT A m s).1 (45 + s) = t (45 + s) := by rw [shT_o _ _ (by omega) s (by omega), oA _ (by omega) (by omega)]
  rw [shT_s, e37, e3, e49, e33, if_pos hd, if_pos hm, hp, show ((p : Int)).toNat = p from rfl]
  show 0 ≤ (teT s p (updI (shT A m s).1 (37 + s) 0) 4).1 (61 + 4 * p + n)
  rw [teT_cell hs hn 4 (by omega), updI_n (show 3 ≠ 37 + s by omega), e3, updI_n (show 45 + s ≠ 37 + s by omega), e45]
  split
  · omega
  · rename_i c
    by_cases hx : updI (shT A m s).1 (37 + s) 0 (61 + 4 * p + n) < 0
    · exact absurd ⟨rfl, hn, hbit, hx⟩ c
    · omega
end
/-- a day, as ports see it -/
theorem go_cell {t : Nat → Int} (hb : bT t) (h1 : w1T t) (hd : t 3 < 150) {p n : Nat} (hp : p < 6) (hn : n < 4) : (0 ≤ kw t p n → kw (goT t).1 p n = kw t p n) ∧ (kw t p n < 0 → Src t (t 3 + 1) p n → kw (goT t).1 p n = t 3 + 1) ∧ (kw t p n < 0 → ¬ Src t (t 3 + 1) p n → kw (goT t).1 p n < 0) := by
  have a1 := hb.2.2.1
  have a2 := hb.2.2.2.1
  have a3 := hb.2.2.2.2.1
  have mA := mid_wa hb h1 hd (t 1).toNat (by omega) (by omega)
  have oA : ∀ i, i < 61 → i ≠ 3 → (waT (updI t 3 (t 3 + 1)) (t 1).toNat).1 i = t i := fun i hi h3 => by rw [waT_o _ hi, updI_n h3]
  have o3 : (waT (updI t 3 (t 3 + 1)) (t 1).toNat).1 3 = t 3 + 1 := by rw [waT_o _ (by omega), updI_s]
  have mS := mid_sh (m := (waT (updI t 3 (t 3 + 1)) (t 1).toNat).2) mA oA o3 hb (t 2).toNat (by omega) (by omega)
  have eG : kw (goT t).1 p n = kw (shT (waT (updI t 3 (t 3 + 1)) (t 1).toNat).1 (waT (updI t 3 (t 3 + 1)) (t 1).toNat).2 (t 2).toNat).1 p n := by
    show (goT t).1 (61 + 4 * p + n) = _
    unfold goT
    simp only
    rw [leT_o _ _ (by omega)]
  have g := mS p n hp hn
  rw [eG]
  refine ⟨g.1, fun h hs => ?_, fun h hs => ?_⟩
  · have pos : 0 ≤ kw (shT (waT (updI t 3 (t 3 + 1)) (t 1).toNat).1 (waT (updI t 3 (t 3 + 1)) (t 1).toNat).2 (t 2).toNat).1 p n := by
      rcases hs with ⟨w, q, w8, w1, q6, wb, kq, kl⟩ | ⟨s, s4, s2, sd, sp, sm, sb⟩
      · have h2 := done_wa hb h1 hd w8 w1 hp q6 hn wb kq kl
        have h3 := keep_wa hn h2 (t 1).toNat (by omega)
        have h4 : 0 ≤ kw (shT (waT (updI t 3 (t 3 + 1)) (t 1).toNat).1 (waT (updI t 3 (t 3 + 1)) (t 1).toNat).2 0).1 p n := by
          show 0 ≤ kw (waT (updI t 3 (t 3 + 1)) (t 1).toNat).1 p n
          omega
        rw [keep_sh hn h4 _ (by omega) (by omega)]
        exact h4
      · have h2 := done_sh (m := (waT (updI t 3 (t 3 + 1)) (t 1).toNat).2) oA o3 hb s4 hn sd sp sm sb
        rw [keep_sh hn h2 _ (by omega) (by omega)]
        exact h2
    rcases g.2 h with g | g
    · omega
    · exact g.1
  · rcases g.2 h with g | g
    · exact g
    · exact absurd g.2 hs
/-- ships, behind a day -/
theorem go_due {t : Nat → Int} (hb : bT t) {s : Nat} (hs : s < 4) : (goT t).1 (37 + s) = if (s : Int) < t 2 ∧ t (37 + s) = t 3 + 1 then 0 else t (37 + s) := by
  have a2 := hb.2.2.2.1
  unfold goT
  simp only
  rw [leT_o _ _ (by omega), shT_37 hs _ (by omega), waT_o _ (by omega), waT_o _ (by omega), updI_n (by omega), updI_s]
  by_cases c : (s : Int) < t 2 ∧ t (37 + s) = t 3 + 1
  · rw [if_pos c, if_pos ⟨by omega, c.2⟩]
  · rw [if_neg c, if_neg (fun h => c ⟨by omega, h.2⟩)]
theorem leT_45 (t : Nat → Int) {s : Nat} : ∀ k, k ≤ 4 → s < k → leT t k (45 + s) = if t (37 + s) = 0 ∧ t (29 + s) ≠ 5 then (((t (45 + s)).toNat ||| knT t (t (33 + s)).toNat 4 : Nat) : Int) else t (45 + s)
  | 0, _, h => by omega
  | k + 1, hk, h => by
    by_cases e : s = k
    · subst e
      have hkn : knT (leT t s) (t (33 + s)).toNat 4 = knT t (t (33 + s)).toNat 4 := by
        unfold knT knT knT knT knT
        rw [leT_o _ _ (by omega), leT_o _ _ (by omega), leT_o _ _ (by omega), leT_o _ _ (by omega)]
      rw [leT_s, updI_s, leT_o _ _ (by omega), leT_o _ _ (by omega), leT_o _ _ (by omega), leT_o _ _ (by omega), hkn]
    · rw [leT_s, updI_n (by omega)]
      exact leT_45 t k (by omega) (by omega)
theorem knT_bit (t : Nat → Int) (p : Nat) {n : Nat} (hn : n < 4) : knT t p 4 / 2 ^ n % 2 = 1 ↔ 0 ≤ t (61 + 4 * p + n) := by
  have key : ∀ b0 b1 b2 b3 : Bool, ∀ n, n < 4 → (((((0 ||| (if b0 then 0 else 2 ^ 0)) ||| (if b1 then 0 else 2 ^ 1)) ||| (if b2 then 0 else 2 ^ 2)) ||| (if b3 then 0 else 2 ^ 3)) / 2 ^ n % 2 = 1 ↔ (if n = 0 then b0 else if n = 1 then b1 else if n = 2 then b2 else b3) = false) := by decide
  have k := key (decide (t (61 + 4 * p + 0) < 0)) (decide (t (61 + 4 * p + 1) < 0)) (decide (t (61 + 4 * p + 2) < 0)) (decide (t (61 + 4 * p + 3) < 0)) n hn
  simp only [decide_eq_true_eq] at k
  unfold knT knT knT knT knT
  rw [k]
  have hc : n = 0 ∨ n = 1 ∨ n = 2 ∨ n = 3 := by omega
  rcases hc with rfl | rfl | rfl | rfl <;> simp <;> omega
theorem or_bit (a b n : Nat) : (a ||| b) / 2 ^ n % 2 = 1 ↔ a / 2 ^ n % 2 = 1 ∨ b / 2 ^ n % 2 = 1 := by
  have h := Nat.testBit_or a b n
  rw [Nat.testBit_eq_decide_div_mod_eq, Nat.testBit_eq_decide_div_mod_eq, Nat.testBit_eq_decide_div_mod_eq] at h
  constructor
  · intro h1
    rw [decide_eq_true h1] at h
    have h2 := h.symm
    rw [Bool.or_eq_true, decide_eq_true_eq, decide_eq_true_eq] at h2
    exact h2
  · intro h1
    have : (decide (a / 2 ^ n % 2 = 1) || decide (b / 2 ^ n % 2 = 1)) = true := by rw [Bool.or_eq_true, decide_eq_true_eq, decide_eq_true_eq]; exact h1
    rw [this] at h
    exact of_decide_eq_true h
