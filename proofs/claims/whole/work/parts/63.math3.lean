/-! ===== what a league is stays so: a day, a beginning, a sailing ===== -/
/-- the row behind signals and arrivals, before ships are told -/
def midT (t : Nat → Int) : Nat → Int := (shT (waT (updI t 3 (t 3 + 1)) (t 1).toNat).1 (waT (updI t 3 (t 3 + 1)) (t 1).toNat).2 (t 2).toNat).1
theorem midT_go (t : Nat → Int) : (goT t).1 = leT (midT t) (t 2).toNat := rfl
theorem midT_o {t : Nat → Int} (hb : bT t) {i : Nat} (hi : i < 37 ∨ (45 ≤ i ∧ i < 61)) (h3 : i ≠ 3) : midT t i = t i := by
  have a2 := hb.2.2.2.1
  unfold midT
  rw [shT_o _ _ hi _ (by omega), waT_o _ (by omega), updI_n h3]
theorem midT_kn {t : Nat → Int} (hb : bT t) {p n : Nat} : midT t (61 + 4 * p + n) = kw (goT t).1 p n := by
  have a2 := hb.2.2.2.1
  show _ = (goT t).1 (61 + 4 * p + n)
  rw [midT_go, leT_o _ _ (by omega)]
theorem go_told {t : Nat → Int} (hb : bT t) {s : Nat} (hs : s < 4) (hs2 : (s : Int) < t 2) : (goT t).1 (45 + s) = if (goT t).1 (37 + s) = 0 ∧ t (29 + s) ≠ 5 then (((t (45 + s)).toNat ||| knT (midT t) (t (33 + s)).toNat 4 : Nat) : Int) else t (45 + s) := by
  have a2 := hb.2.2.2.1
  have e37 : (goT t).1 (37 + s) = midT t (37 + s) := by rw [midT_go, leT_o _ _ (by omega)]
  rw [e37, midT_go, leT_45 _ _ (by omega) (by omega), midT_o hb (i := 29 + s) (by omega) (by omega), midT_o hb (i := 45 + s) (by omega) (by omega), midT_o hb (i := 33 + s) (by omega) (by omega)]
theorem toNat_or (a b : Nat) : ((a ||| b : Nat) : Int).toNat = a ||| b := rfl
theorem bit_0 {x : Int} {n : Nat} (h : x = 0) : ¬ bit x n := by
  unfold bit
  rw [h]
  simp
theorem kn0_go {t : Nat → Int} (hb : bT t) (h1 : w1T t) (hd : t 3 < 150) (hk : kn0 t) (hB : bt0 t) : kn0 (goT t).1 := by
  intro p n hp hn h4
  rw [goT_o hb (by omega) (by omega)] at h4
  refine (go_cell hb h1 hd hp hn).2.2 (hk p n hp hn h4) ?_
  rintro (⟨w, q, w8, w1, q6, wb, kq, kl⟩ | ⟨s, s4, s2, sd, sp, sm, sb⟩)
  · have := hk q n q6 hn h4
    unfold kw at kq
    omega
  · have h := hB s s4 s2
    unfold bit at sb
    rw [Nat.div_eq_of_lt (Nat.lt_of_lt_of_le h (Nat.pow_le_pow_right (by omega) (by omega)))] at sb
    omega
theorem kn_lt {t : Nat → Int} (hk : kn0 t) {K : Nat} (h4 : t 4 = (K : Int)) (hK : K ≤ 4) {p : Nat} (hp : p < 6) : knT t p 4 < 2 ^ K := by
  rw [knT_K (K := K) (fun n h1 h2 => hk p n hp h2 (by omega)) 4 (by omega) (by omega)]
  exact knT_lt t p K hK
theorem kn0_mid {t : Nat → Int} (hb : bT t) (hk : kn0 (goT t).1) : kn0 (midT t) := by
  intro p n hp hn h4
  rw [midT_o hb (by omega) (by omega)] at h4
  rw [midT_kn hb]
  exact hk p n hp hn (by rw [goT_o hb (by omega) (by omega)]; exact h4)
theorem q_go {t : Nat → Int} (hw : wT t) (hd : t 3 < 150) (hq : qT t) : qT (goT t).1 := by
  have hb := hw.1.1
  obtain ⟨⟨hk, hB, h1, hne, hmu⟩, hen, hsh, hcl, hpo, h2⟩ := hq
  have a0 := hb.2.1
  have a1 := hb.2.2.1
  have a2 := hb.2.2.2.1
  have a3 := hb.2.2.2.2.1
  have a4 := hb.2.2.2.2.2.1
  have hkg := kn0_go hb h1 hd hk hB
  have hkm := kn0_mid hb hkg
  obtain ⟨K, hK⟩ := Int.eq_ofNat_of_zero_le a4.1
  have o : ∀ i, (i < 37 ∨ (49 ≤ i ∧ i < 61)) → i ≠ 3 → (goT t).1 i = t i := fun i hi h3 => goT_o hb hi h3
  have e3 := goT_3 hb
  refine ⟨⟨hkg, ?_, ?_, ?_, ?_⟩, ?_, ?_, ?_, ?_, ?_⟩
  · intro s hs hs2
    rw [o 2 (by omega) (by omega)] at hs2
    have hBs := hB s hs hs2
    have hp := (hb.2.2.2.2.2.2.2.1 s hs).2.1
    rw [o 4 (by omega) (by omega), go_told hb hs hs2]
    split
    · rw [toNat_or]
      have := kn_lt hkm (K := K) (by rw [midT_o hb (by omega) (by omega), hK]) (by omega) (p := (t (33 + s)).toNat) (by omega)
      rw [hK, show ((K : Int)).toNat = K from rfl] at hBs ⊢
      exact Nat.or_lt_two_pow hBs this
    · exact hBs
  · intro w hw2
    rw [o 1 (by omega) (by omega)] at hw2
    rw [o (21 + w) (by omega) (by omega)]
    exact h1 w hw2
  · intro w hw8 hw2
    rw [o 1 (by omega) (by omega)] at hw2
    rw [o (5 + w) (by omega) (by omega), o (13 + w) (by omega) (by omega)]
    exact hne w hw8 hw2
  · intro s hs
    rw [o (49 + s) (by omega) (by omega)]
    exact hmu s hs
  · intro w hw8 hw2
    rw [o 1 (by omega) (by omega)] at hw2
    rw [o (5 + w) (by omega) (by omega), o (13 + w) (by omega) (by omega), o 0 (by omega) (by omega)]
    exact hen w hw8 hw2
  · intro s hs hs2
    rw [o 2 (by omega) (by omega)] at hs2
    obtain ⟨k1, k2, k3, k4, k5, k6⟩ := hsh s hs hs2
    have hp := (hb.2.2.2.2.2.2.2.1 s hs).2.1
    have gd := go_due hb hs
    have gt := go_told hb hs hs2
    have hc : ∀ n, n < 4 → _ := fun n hn => go_cell hb h1 hd (p := (t (33 + s)).toNat) (n := n) (by omega) hn
    rw [o (29 + s) (by omega) (by omega), o (33 + s) (by omega) (by omega), o 0 (by omega) (by omega), e3]
    refine ⟨k1, k2, ?_, ?_, ?_, ?_⟩
    · rw [gd]
      split
      · exact Or.inl rfl
      · rename_i c
        have : ¬ t (37 + s) = t 3 + 1 := fun h => c ⟨hs2, h⟩
        omega
    · intro hg
      rw [gt, if_neg (fun h => h.2 hg)]
      exact k4 hg
    · intro h0 n hn hbit
      rw [gt] at hbit
      have old : bit (t (45 + s)) n → 0 ≤ kw (goT t).1 (t (33 + s)).toNat n := by
        intro hb2
        by_cases c : t (37 + s) = 0
        · have := k5 c n hn hb2
          rw [(hc n hn).1 this]
          exact this
        · have c2 : t (37 + s) = t 3 + 1 := by
            rw [gd] at h0
            by_cases c3 : (s : Int) < t 2 ∧ t (37 + s) = t 3 + 1
            · exact c3.2
            · rw [if_neg c3] at h0; exact absurd h0 c
          by_cases c3 : 0 ≤ kw t (t (33 + s)).toNat n
          · rw [(hc n hn).1 c3]; exact c3
          · rw [(hc n hn).2.1 (by omega) (Or.inr ⟨s, hs, hs2, c2, by omega, hmu s hs, hb2⟩)]
            omega
      split at hbit
      · unfold bit at hbit
        rw [toNat_or, or_bit] at hbit
        rcases hbit with hb2 | hb2
        · exact old hb2
        · rw [knT_bit _ _ hn, midT_kn hb] at hb2
          exact hb2
      · exact old hbit
    · intro h0 hg n hn hkn
      rw [gt, if_pos ⟨h0, hg⟩]
      unfold bit
      rw [toNat_or, or_bit]
      refine Or.inr ?_
      rw [knT_bit _ _ hn, midT_kn hb]
      exact hkn
  · intro w hw8 hw2 n hn
    rw [o 1 (by omega) (by omega)] at hw2
    have hl := h1 w hw2
    have we := hb.2.2.2.2.2.2.1 w hw8
    have cl := hcl w hw8 hw2 n hn
    have ca := go_cell hb h1 hd (p := (t (5 + w)).toNat) (n := n) (by omega) hn
    have cb := go_cell hb h1 hd (p := (t (13 + w)).toNat) (n := n) (by omega) hn
    have ba := hb.2.2.2.2.2.2.2.2.2 (61 + 4 * (t (5 + w)).toNat + n) (by omega)
    have bb := hb.2.2.2.2.2.2.2.2.2 (61 + 4 * (t (13 + w)).toNat + n) (by omega)
    rw [o (5 + w) (by omega) (by omega), o (13 + w) (by omega) (by omega), o (21 + w) (by omega) (by omega), e3]
    have sA : 0 ≤ kw t (t (13 + w)).toNat n → 3 * t (21 + w) ≤ t 3 + 1 - kw t (t (13 + w)).toNat n → Src t (t 3 + 1) (t (5 + w)).toNat n := fun x1 x2 => Or.inl ⟨w, (t (13 + w)).toNat, hw8, hw2, by omega, Or.inl ⟨by omega, by omega⟩, x1, x2⟩
    have sB : 0 ≤ kw t (t (5 + w)).toNat n → 3 * t (21 + w) ≤ t 3 + 1 - kw t (t (5 + w)).toNat n → Src t (t 3 + 1) (t (13 + w)).toNat n := fun x1 x2 => Or.inl ⟨w, (t (5 + w)).toNat, hw8, hw2, by omega, Or.inr ⟨by omega, by omega⟩, x1, x2⟩
    have ba' : kw t (t (5 + w)).toNat n ≤ t 3 := ba
    have bb' : kw t (t (13 + w)).toNat n ≤ t 3 := bb
    have oa : 0 ≤ kw (goT t).1 (t (5 + w)).toNat n → kw (goT t).1 (t (5 + w)).toNat n + 3 * t (21 + w) ≤ t 3 + 1 → 0 ≤ kw t (t (5 + w)).toNat n ∧ kw (goT t).1 (t (5 + w)).toNat n = kw t (t (5 + w)).toNat n := by
      intro x1 x2
      by_cases c : 0 ≤ kw t (t (5 + w)).toNat n
      · exact ⟨c, ca.1 c⟩
      · exfalso
        by_cases s : Src t (t 3 + 1) (t (5 + w)).toNat n
        · have := ca.2.1 (by omega) s; omega
        · have := ca.2.2 (by omega) s; omega
    have ob : 0 ≤ kw (goT t).1 (t (13 + w)).toNat n → kw (goT t).1 (t (13 + w)).toNat n + 3 * t (21 + w) ≤ t 3 + 1 → 0 ≤ kw t (t (13 + w)).toNat n ∧ kw (goT t).1 (t (13 + w)).toNat n = kw t (t (13 + w)).toNat n := by
      intro x1 x2
      by_cases c : 0 ≤ kw t (t (13 + w)).toNat n
      · exact ⟨c, cb.1 c⟩
      · exfalso
        by_cases s : Src t (t 3 + 1) (t (13 + w)).toNat n
        · have := cb.2.1 (by omega) s; omega
        · have := cb.2.2 (by omega) s; omega
    refine ⟨fun x1 x2 => ?_, fun x1 x2 => ?_⟩
    · obtain ⟨y1, y2⟩ := oa x1 x2
      rw [y2] at x2 ⊢
      by_cases c : 0 ≤ kw t (t (13 + w)).toNat n
      · rw [cb.1 c]
        refine ⟨c, ?_⟩
        by_cases c2 : kw t (t (5 + w)).toNat n + 3 * t (21 + w) ≤ t 3
        · exact (cl.1 y1 c2).2
        · omega
      · rw [cb.2.1 (by omega) (sB y1 (by omega))]
        refine ⟨by omega, ?_⟩
        by_cases c2 : kw t (t (5 + w)).toNat n + 3 * t (21 + w) ≤ t 3
        · exact absurd (cl.1 y1 c2).1 c
        · omega
    · obtain ⟨y1, y2⟩ := ob x1 x2
      rw [y2] at x2 ⊢
      by_cases c : 0 ≤ kw t (t (5 + w)).toNat n
      · rw [ca.1 c]
        refine ⟨c, ?_⟩
        by_cases c2 : kw t (t (13 + w)).toNat n + 3 * t (21 + w) ≤ t 3
        · exact (cl.2 y1 c2).2
        · omega
      · rw [ca.2.1 (by omega) (sA y1 (by omega))]
        refine ⟨by omega, ?_⟩
        by_cases c2 : kw t (t (13 + w)).toNat n + 3 * t (21 + w) ≤ t 3
        · exact absurd (cl.2 y1 c2).1 c
        · omega
  · intro p n hp hn h0
    rw [o 0 (by omega) (by omega)] at h0
    refine (go_cell hb h1 hd hp hn).2.2 (hpo p n hp hn h0) ?_
    rintro (⟨w, q, w8, w1, q6, wb, kq, kl⟩ | ⟨s, s4, s2, sd, sp, sm, sb⟩)
    · have := hen w w8 w1
      unfold wayB at wb
      omega
    · have := (hsh s s4 s2).2.1
      omega
  · rw [o 0 (by omega) (by omega)]; exact h2
