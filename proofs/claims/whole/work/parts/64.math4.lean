/-! ===== a beginning, a sailing keep what a league is ===== -/
theorem haT_o {t : Nat → Int} {p n i : Nat} (h : i < 53 ∧ i ≠ 4) : haT t p n i = t i := by
  unfold haT; simp (disch := omega) only [updI_n]
theorem haT_kn {t : Nat → Int} {p n q m : Nat} (hn : n < 4) (hm : m < 4) : haT t p n (61 + 4 * q + m) = if q = p ∧ m = n then t 3 else kw t q m := by
  unfold haT
  by_cases e : q = p ∧ m = n
  · rw [if_pos e, e.1, e.2, updI_s]
  · rw [if_neg e, updI_n (fun h => e ((ci_61 hm hn).mp h)), updI_n (by omega), updI_n (by omega), updI_n (by omega)]
theorem q_ha {t : Nat → Int} (hw : wT t) (hq : qT t) {p n : Nat} (hp : (p : Int) < t 0) (hn : n < 4) (h4 : t 4 = (n : Int)) : qT (leT (haT t p n) (t 2).toNat) := by
  have hb := hw.1.1
  obtain ⟨⟨hk, hB, h1, hne, hmu⟩, hen, hsh, hcl, hpo, h2⟩ := hq
  have a0 := hb.2.1
  have a2 := hb.2.2.2.1
  have a3 := hb.2.2.2.2.1
  have hp6 : p < 6 := by omega
  have hkh := kn0_ha (p := p) hk hn h4
  have hBh := bt0_ha (p := p) hB hn h4
  have e4 : haT t p n 4 = (n : Int) + 1 := by unfold haT; rw [updI_n (by omega), updI_n (by omega), updI_n (by omega), updI_s]
  have ol : ∀ i, (i < 45 ∨ 49 ≤ i) → leT (haT t p n) (t 2).toNat i = haT t p n i := fun i hi => leT_o _ _ (by omega)
  have o : ∀ i, (i < 45 ∨ (49 ≤ i ∧ i < 53)) → i ≠ 4 → leT (haT t p n) (t 2).toNat i = t i := fun i hi h => by rw [ol i (by omega), haT_o (by omega)]
  have kc : ∀ q m, m < 4 → kw (leT (haT t p n) (t 2).toNat) q m = if q = p ∧ m = n then t 3 else kw t q m := fun q m hm => by
    show leT (haT t p n) (t 2).toNat (61 + 4 * q + m) = _
    rw [ol _ (by omega), haT_kn hn hm]
  have to : ∀ s : Nat, s < 4 → (s : Int) < t 2 → leT (haT t p n) (t 2).toNat (45 + s) = if t (37 + s) = 0 ∧ t (29 + s) ≠ 5 then (((t (45 + s)).toNat ||| knT (haT t p n) (t (33 + s)).toNat 4 : Nat) : Int) else t (45 + s) := fun s hs hs2 => by
    rw [leT_45 _ _ (by omega) (by omega), haT_o (i := 37 + s) (by omega), haT_o (i := 29 + s) (by omega), haT_o (i := 45 + s) (by omega), haT_o (i := 33 + s) (by omega)]
  refine ⟨⟨kn0_le hkh (by omega), ?_, ?_, ?_, ?_⟩, ?_, ?_, ?_, ?_, ?_⟩
  · intro s hs hs2
    rw [o 2 (by omega) (by omega)] at hs2
    have hp' := (hb.2.2.2.2.2.2.2.1 s hs).2.1
    have hBs := hBh s hs (by rw [haT_o (by omega)]; exact hs2)
    rw [haT_o (i := 45 + s) (by omega), e4, show ((n : Int) + 1).toNat = n + 1 by omega] at hBs
    rw [to s hs hs2, ol 4 (by omega), e4, show ((n : Int) + 1).toNat = n + 1 by omega]
    split
    · rw [toNat_or]
      exact Nat.or_lt_two_pow hBs (kn_lt hkh (K := n + 1) (by rw [e4]; omega) (by omega) (by omega))
    · exact hBs
  · intro w hw2
    rw [o 1 (by omega) (by omega)] at hw2
    have := hb.2.2.1
    rw [o (21 + w) (by omega) (by omega)]
    exact h1 w hw2
  · intro w hw8 hw2
    rw [o 1 (by omega) (by omega)] at hw2
    rw [o (5 + w) (by omega) (by omega), o (13 + w) (by omega) (by omega)]
    exact hne w hw8 hw2
  · intro s hs
    rw [o (49 + s) (by omega) (by omega)]
    exact hmu s hs
  · intro w hw8 hw2
    rw [o 1 (by omega) (by omega)] at hw2
    rw [o (5 + w) (by omega) (by omega), o (13 + w) (by omega) (by omega), o 0 (by omega) (by omega)]
    exact hen w hw8 hw2
  · intro s hs hs2
    rw [o 2 (by omega) (by omega)] at hs2
    obtain ⟨k1, k2, k3, k4, k5, k6⟩ := hsh s hs hs2
    have hp' := (hb.2.2.2.2.2.2.2.1 s hs).2.1
    rw [o (29 + s) (by omega) (by omega), o (33 + s) (by omega) (by omega), o 0 (by omega) (by omega), o 3 (by omega) (by omega), o (37 + s) (by omega) (by omega)]
    refine ⟨k1, k2, k3, ?_, ?_, ?_⟩
    · intro hg
      rw [to s hs hs2, if_neg (fun h => h.2 hg)]
      exact k4 hg
    · intro h0 m hm hbit
      rw [kc _ m hm]
      rw [to s hs hs2] at hbit
      have old : bit (t (45 + s)) m → 0 ≤ (if (t (33 + s)).toNat = p ∧ m = n then t 3 else kw t (t (33 + s)).toNat m) := by
        intro hb2
        have := k5 h0 m hm hb2
        split
        · omega
        · exact this
      split at hbit
      · unfold bit at hbit
        rw [toNat_or, or_bit] at hbit
        rcases hbit with hb2 | hb2
        · exact old hb2
        · rw [knT_bit _ _ hm, haT_kn hn hm] at hb2
          exact hb2
      · exact old hbit
    · intro h0 hg m hm hkn
      rw [kc _ m hm] at hkn
      rw [to s hs hs2, if_pos ⟨h0, hg⟩]
      unfold bit
      rw [toNat_or, or_bit]
      refine Or.inr ?_
      rw [knT_bit _ _ hm, haT_kn hn hm]
      exact hkn
  · intro w hw8 hw2 m hm
    rw [o 1 (by omega) (by omega)] at hw2
    have hl := h1 w hw2
    have we := hb.2.2.2.2.2.2.1 w hw8
    have cl := hcl w hw8 hw2 m hm
    rw [o (5 + w) (by omega) (by omega), o (13 + w) (by omega) (by omega), o (21 + w) (by omega) (by omega), o 3 (by omega) (by omega), kc _ m hm, kc _ m hm]
    have ka : m = n → kw t (t (5 + w)).toNat m < 0 := fun e => hk _ m (by omega) hm (by omega)
    have kb : m = n → kw t (t (13 + w)).toNat m < 0 := fun e => hk _ m (by omega) hm (by omega)
    by_cases c1 : (t (5 + w)).toNat = p ∧ m = n
    · rw [if_pos c1]
      refine ⟨fun x1 x2 => by omega, fun x1 x2 => ?_⟩
      by_cases c2 : (t (13 + w)).toNat = p ∧ m = n
      · rw [if_pos c2] at x1 x2; omega
      · rw [if_neg c2] at x1 x2; have := kb c1.2; omega
    · rw [if_neg c1]
      by_cases c2 : (t (13 + w)).toNat = p ∧ m = n
      · rw [if_pos c2]
        refine ⟨fun x1 x2 => ?_, fun x1 x2 => by omega⟩
        have := ka c2.2; omega
      · rw [if_neg c2]
        exact cl
  · intro q m hq hm h0
    rw [o 0 (by omega) (by omega)] at h0
    have := hpo q m hq hm h0
    rw [kc q m hm, if_neg (by omega)]
    exact this
  · rw [o 0 (by omega) (by omega)]; exact h2
theorem w_ha {t : Nat → Int} (hw : wT t) {p n : Nat} (hp : p < 6) (hn : n < 4) : wT (leT (haT t p n) (t 2).toNat) := by
  have a2 := hw.1.1.2.2.2.1
  refine ⟨vT_ha hw.1 hp hn, fun i hi => ?_⟩
  rw [leT_o _ _ (by omega)]
  unfold haT
  simp (disch := omega) only [updI_n]
  exact hw.2 i hi
theorem w_sa {t : Nat → Int} (hw : wT t) {s w : Nat} (hs : s < 4) (hw8 : w < 8) (he : 0 ≤ enT t s w) : wT (saT t s w) := by
  refine ⟨vT_sa hw.1 hs hw8 he, fun i hi => ?_⟩
  unfold saT
  simp (disch := omega) only [updI_n]
  exact hw.2 i hi
theorem q_sa {t : Nat → Int} (hw : wT t) (hq : qT t) {s w : Nat} (hs : s < 4) (hs2 : (s : Int) < t 2) (hw8 : w < 8) (hw2 : (w : Int) < t 1) (he : 0 ≤ enT t s w) : qT (saT t s w) := by
  have hb := hw.1.1
  obtain ⟨⟨hk, hB, h1, hne, hmu⟩, hen, hsh, hcl, hpo, h2⟩ := hq
  have a1 := hb.2.2.1
  have o : ∀ i, i ≠ 37 + s → i ≠ 33 + s → saT t s w i = t i := fun i h1 h2 => by unfold saT; rw [updI_n h2, updI_n h1]
  have e33 : saT t s w (33 + s) = enT t s w := by unfold saT; rw [updI_s]
  have e37 : saT t s w (37 + s) = t 3 + tkT t s w := by unfold saT; rw [updI_n (by omega), updI_s]
  have hT := tkT_1 (s := s) (h1 w hw2)
  have a3 := hb.2.2.2.2.1
  have hE : enT t s w < t 0 := by
    have := hen w hw8 hw2
    unfold enT at he ⊢
    (repeat' split) <;> omega
  have ek : ∀ p n, kw (saT t s w) p n = kw t p n := fun p n => o _ (by omega) (by omega)
  refine ⟨⟨?_, ?_, ?_, ?_, ?_⟩, ?_, ?_, ?_, ?_, ?_⟩
  · intro p n hp hn h4
    rw [o 4 (by omega) (by omega)] at h4
    rw [o _ (by omega) (by omega)]
    exact hk p n hp hn h4
  · intro i hi hi2
    rw [o 2 (by omega) (by omega)] at hi2
    rw [o (45 + i) (by omega) (by omega), o 4 (by omega) (by omega)]
    exact hB i hi hi2
  · intro x hx
    rw [o 1 (by omega) (by omega)] at hx
    rw [o (21 + x) (by omega) (by omega)]
    exact h1 x hx
  · intro x hx8 hx
    rw [o 1 (by omega) (by omega)] at hx
    rw [o (5 + x) (by omega) (by omega), o (13 + x) (by omega) (by omega)]
    exact hne x hx8 hx
  · intro i hi
    rw [o (49 + i) (by omega) (by omega)]
    exact hmu i hi
  · intro x hx8 hx
    rw [o 1 (by omega) (by omega)] at hx
    rw [o (5 + x) (by omega) (by omega), o (13 + x) (by omega) (by omega), o 0 (by omega) (by omega)]
    exact hen x hx8 hx
  · intro i hi hi2
    rw [o 2 (by omega) (by omega)] at hi2
    obtain ⟨k1, k2, k3, k4, k5, k6⟩ := hsh i hi hi2
    rw [o (29 + i) (by omega) (by omega), o 0 (by omega) (by omega), o 3 (by omega) (by omega), o (45 + i) (by omega) (by omega)]
    by_cases e : i = s
    · subst e
      rw [e33, e37]
      exact ⟨k1, hE, Or.inr (by omega), k4, fun h => by omega, fun h => by omega⟩
    · rw [o (33 + i) (by omega) (by omega), o (37 + i) (by omega) (by omega)]
      simp only [ek]
      exact ⟨k1, k2, k3, k4, k5, k6⟩
  · intro x hx8 hx n hn
    rw [o 1 (by omega) (by omega)] at hx
    rw [o (5 + x) (by omega) (by omega), o (13 + x) (by omega) (by omega), o (21 + x) (by omega) (by omega), o 3 (by omega) (by omega)]
    simp only [ek]
    exact hcl x hx8 hx n hn
  · intro p n hp hn h0
    rw [o 0 (by omega) (by omega)] at h0
    rw [ek]
    exact hpo p n hp hn h0
  · rw [o 0 (by omega) (by omega)]; exact h2
