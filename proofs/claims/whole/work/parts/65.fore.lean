/-! ===== mathematics: what comes if nobody sails, day by day and at once ===== -/
/-- a ship that will tell a news: it is at sea, was told, isn't mute -/
abbrev tels (t : Nat → Int) (m n s : Nat) : Prop := 0 < t (37 + s) ∧ m / 2 ^ s % 2 = 0 ∧ bit (t (45 + s)) n
/-- days from which ports know by themselves, or by one of the first k ships -/
def fsT (t : Nat → Int) (m n : Nat) : Nat → Nat → Int
  | 0 => fun p => if kw t p n < 0 then 1000000 else kw t p n
  | k + 1 => if tels t m n k then updI (fsT t m n k) (t (33 + k)).toNat (mnI (t (37 + k)) (fsT t m n k (t (33 + k)).toNat)) else fsT t m n k
theorem fsT_s (t : Nat → Int) (m n k : Nat) : fsT t m n (k + 1) = if tels t m n k then updI (fsT t m n k) (t (33 + k)).toNat (mnI (t (37 + k)) (fsT t m n k (t (33 + k)).toNat)) else fsT t m n k := rfl
abbrev sgD (t : Nat → Int) : Nat → Int := fun w => 3 * t (21 + w)
/-- from when a port knows a news, if nobody sails -/
def foD (t : Nat → Int) (m n : Nat) : Nat → Int := piT t (sgD t) (fsT t m n (t 2).toNat) 5
section
variable {t : Nat → Int} {m n : Nat}
theorem fsT_le (p : Nat) : ∀ k, fsT t m n k p ≤ fsT t m n 0 p
  | 0 => by omega
  | k + 1 => by
    have ih := fsT_le p k
    rw [fsT_s]
    split
    · by_cases e : p = (t (33 + k)).toNat
      · subst e
        rw [updI_s]
        unfold mnI
        split <;> omega
      · rw [updI_n e]; exact ih
    · exact ih
theorem fsT_f2 (p : Nat) : ∀ k, fsT t m n k p = fsT t m n 0 p ∨ ∃ s, s < k ∧ tels t m n s ∧ (t (33 + s)).toNat = p ∧ fsT t m n k p = t (37 + s)
  | 0 => Or.inl rfl
  | k + 1 => by
    have ih := fsT_f2 p k
    rw [fsT_s]
    split
    · rename_i c
      by_cases e : p = (t (33 + k)).toNat
      · subst e
        rw [updI_s]
        by_cases c2 : t (37 + k) < fsT t m n k (t (33 + k)).toNat
        · exact Or.inr ⟨k, by omega, c, rfl, by unfold mnI; rw [if_pos c2]⟩
        · have e2 : mnI (t (37 + k)) (fsT t m n k (t (33 + k)).toNat) = fsT t m n k (t (33 + k)).toNat := by unfold mnI; rw [if_neg c2]
          rw [e2]
          rcases ih with ih | ⟨s, h1, h2, h3, h4⟩
          · exact Or.inl ih
          · exact Or.inr ⟨s, by omega, h2, h3, h4⟩
      · rw [updI_n e]
        rcases ih with ih | ⟨s, h1, h2, h3, h4⟩
        · exact Or.inl ih
        · exact Or.inr ⟨s, by omega, h2, h3, h4⟩
    · rcases ih with ih | ⟨s, h1, h2, h3, h4⟩
      · exact Or.inl ih
      · exact Or.inr ⟨s, by omega, h2, h3, h4⟩
theorem fsT_f3 {s : Nat} (hc : tels t m n s) : ∀ k, s < k → fsT t m n k (t (33 + s)).toNat ≤ t (37 + s)
  | 0, h => by omega
  | k + 1, h => by
    rw [fsT_s]
    by_cases e : s = k
    · subst e
      rw [if_pos hc, updI_s]
      unfold mnI
      split <;> omega
    · have ih := fsT_f3 hc k (by omega)
      split
      · by_cases e2 : (t (33 + s)).toNat = (t (33 + k)).toNat
        · rw [e2, updI_s]
          rw [e2] at ih
          unfold mnI
          split <;> omega
        · rw [updI_n e2]; exact ih
      · exact ih
end
theorem fsT_0 {t : Nat → Int} {m n p : Nat} : fsT t m n 0 p = if kw t p n < 0 then 1000000 else kw t p n := rfl
theorem fsT_gB {t : Nat → Int} (hb : bT t) {m n : Nat} : ∀ k, k ≤ 4 → gB (fsT t m n k)
  | 0, _ => fun p hp => by
    have := hb.1 (61 + 4 * p + n)
    rw [fsT_0]
    unfold kw
    split <;> omega
  | k + 1, hk => by
    have ih := fsT_gB (m := m) (n := n) hb k (by omega)
    have h1 := hb.1 (37 + k)
    have h2 := (hb.2.2.2.2.2.2.2.1 k (by omega)).2.1
    have h3 := ih (t (33 + k)).toNat (by omega)
    rw [fsT_s]
    split
    · refine gB_u ih ?_
      unfold mnI
      split <;> omega
    · exact ih
/-- its properties -/
theorem foD_p {t : Nat → Int} (hw : wT t) (hq : qT t) (m : Nat) {n : Nat} (hn : n < 4) : gB (foD t m n) ∧ clT t (sgD t) (foD t m n) ∧ (∀ p, foD t m n p ≤ fsT t m n (t 2).toNat p) ∧ (∀ v, foD t m n v ≠ fsT t m n (t 2).toNat v → ∃ w : Nat, (w : Int) < t 1 ∧ (((t (13 + w)).toNat = v ∧ foD t m n v = foD t m n (t (5 + w)).toNat + sgD t w) ∨ ((t (5 + w)).toNat = v ∧ foD t m n v = foD t m n (t (13 + w)).toNat + sgD t w))) ∧ (∀ p, p < 6 → (0 ≤ kw t p n → foD t m n p = kw t p n) ∧ (kw t p n < 0 → t 3 < foD t m n p)) := by
  have hb := hw.1.1
  obtain ⟨⟨hk, hB, h1, hne, hmu⟩, hen, hsh, hcl, hpo, h2⟩ := hq
  have a2 := hb.2.2.2.1
  have a1 := hb.2.2.1
  have a3 := hb.2.2.2.2.1
  have wy := wy_sg hb h1
  have gf := fsT_gB (m := m) (n := n) hb (t 2).toNat (by omega)
  have fx := piT_5 wy gf
  have cl := clT_fix fx
  have le := fun p => piT_le t (sgD t) (fsT t m n (t 2).toNat) p 5
  have gr : ∀ h, clT t (sgD t) h → (∀ p, h p ≤ fsT t m n (t 2).toNat p) → ∀ p, h p ≤ foD t m n p := fun h x1 x2 p => piT_g wy.1.1 x2 x1 p 5
  have kwb : ∀ p, kw t p n ≤ t 3 := fun p => hb.2.2.2.2.2.2.2.2.2 (61 + 4 * p + n) (by omega)
  have f4 : ∀ p, kw t p n < 0 → t 3 < fsT t m n (t 2).toNat p := by
    intro p hp
    rcases fsT_f2 (t := t) (m := m) (n := n) p (t 2).toNat with e | ⟨s, s1, s2, s3, s4⟩
    · rw [e, fsT_0, if_pos hp]; omega
    · have := (hsh s (by omega) (by omega)).2.2.1
      rw [s4]; omega
  have f1 : ∀ p, 0 ≤ kw t p n → fsT t m n (t 2).toNat p = kw t p n := by
    intro p hp
    have l := fsT_le (t := t) (m := m) (n := n) p (t 2).toNat
    rw [fsT_0, if_neg (by omega)] at l
    rcases fsT_f2 (t := t) (m := m) (n := n) p (t 2).toNat with e | ⟨s, s1, s2, s3, s4⟩
    · rw [e, fsT_0, if_neg (by omega)]
    · have := (hsh s (by omega) (by omega)).2.2.1
      have := kwb p
      have := s2.1
      omega
  -- what is known, and a day later where it isn't
  have low := gr (fun p => if 0 ≤ kw t p n then kw t p n else t 3 + 1) (by
    intro w hw2
    have w8 : w < 8 := by omega
    have c := hcl w w8 hw2 n hn
    have l := h1 w hw2
    have ka := kwb (t (5 + w)).toNat
    have kb := kwb (t (13 + w)).toNat
    have es : sgD t w = 3 * t (21 + w) := rfl
    simp only
    refine ⟨?_, ?_⟩
    · by_cases ca : 0 ≤ kw t (t (5 + w)).toNat n
      · rw [if_pos ca]
        by_cases cc : kw t (t (5 + w)).toNat n + 3 * t (21 + w) ≤ t 3
        · have := c.1 ca cc
          rw [if_pos this.1]; exact this.2
        · split <;> omega
      · rw [if_neg ca]; split <;> omega
    · by_cases cb : 0 ≤ kw t (t (13 + w)).toNat n
      · rw [if_pos cb]
        by_cases cc : kw t (t (13 + w)).toNat n + 3 * t (21 + w) ≤ t 3
        · have := c.2 cb cc
          rw [if_pos this.1]; exact this.2
        · split <;> omega
      · rw [if_neg cb]; split <;> omega) (by
    intro p
    split
    · rename_i c; rw [f1 p c]; omega
    · rename_i c; have := f4 p (by omega); omega)
  refine ⟨gB_pi gf wy 5, cl, le, fun v hv => tight wy cl le gr v hv, fun p hp => ⟨fun c => ?_, fun c => ?_⟩⟩
  · have l := low p
    rw [if_pos c] at l
    have l2 := le p
    have e : foD t m n p = piT t (sgD t) (fsT t m n (t 2).toNat) 5 p := rfl
    rw [f1 p c] at l2
    omega
  · have l := low p
    rw [if_neg (by omega)] at l
    omega
theorem muT_49 (t : Nat → Int) (m : Nat) {s : Nat} : ∀ k, s < k → muT t m k (49 + s) = ((m / 2 ^ s % 2 : Nat) : Int)
  | 0, h => by omega
  | k + 1, h => by
    rw [muT_s]
    by_cases e : s = k
    · subst e; rw [updI_s]
    · rw [updI_n (by omega)]; exact muT_49 t m k (by omega)
/-- day by day -/
theorem it_fore {t : Nat → Int} (hw : wT t) (hq : qT t) (m : Nat) {n : Nat} (hn : n < 4) : ∀ k : Nat, t 3 + (k : Int) ≤ 150 → (∀ p, p < 6 → (foD t m n p ≤ t 3 + (k : Int) → kw (itT (muT t m 4) k) p n = foD t m n p) ∧ (t 3 + (k : Int) < foD t m n p → kw (itT (muT t m 4) k) p n < 0)) ∧ (∀ i, (i < 37 ∨ (49 ≤ i ∧ i < 61)) → i ≠ 3 → itT (muT t m 4) k i = muT t m 4 i) ∧ (∀ s : Nat, s < 4 → (s : Int) < t 2 → itT (muT t m 4) k (37 + s) = (if t (37 + s) ≤ t 3 + (k : Int) then 0 else t (37 + s)) ∧ (t 3 + (k : Int) < t (37 + s) → itT (muT t m 4) k (45 + s) = t (45 + s)))
  | 0, hk => by
    obtain ⟨q1, q2, q3, q4, q5⟩ := foD_p hw hq m hn
    have hb := hw.1.1
    have om : ∀ i, (i < 49 ∨ 53 ≤ i) → muT t m 4 i = t i := fun i hi => muT_o t m 4 (by omega)
    refine ⟨fun p hp => ?_, fun i hi h3 => rfl, fun s hs hs2 => ⟨?_, fun _ => om _ (by omega)⟩⟩
    · have e : kw (itT (muT t m 4) 0) p n = kw t p n := om _ (by omega)
      have q := q5 p hp
      rw [e]
      refine ⟨fun c => ?_, fun c => ?_⟩
      · by_cases x : 0 ≤ kw t p n
        · exact (q.1 x).symm
        · have := q.2 (by omega); omega
      · by_cases x : 0 ≤ kw t p n
        · have := q.1 x
          have : kw t p n ≤ t 3 := hb.2.2.2.2.2.2.2.2.2 (61 + 4 * p + n) (by omega)
          omega
        · omega
    · show muT t m 4 (37 + s) = _
      rw [om _ (by omega)]
      have := (hq.2.2.1 s hs hs2).2.2.1
      have := hb.2.2.2.2.1
      split <;> omega
  | k + 1, hk => by
    obtain ⟨q1, q2, q3, q4, q5⟩ := foD_p hw hq m hn
    obtain ⟨i1, i2, i3⟩ := it_fore hw hq m hn k (by omega)
    have wM := muT_w hw m 4 (by omega)
    have om : ∀ i, (i < 49 ∨ 53 ≤ i) → muT t m 4 i = t i := fun i hi => muT_o t m 4 (by omega)
    obtain ⟨wI, eI⟩ := itT_w wM k (by rw [om 3 (by omega)]; omega)
    rw [om 3 (by omega)] at eI
    have hb := hw.1.1
    have hbI := wI.1.1
    obtain ⟨⟨hk0, hB, h1, hne, hmu⟩, hen, hsh, hcl, hpo, h2⟩ := hq
    have a2 := hb.2.2.2.1
    have a3 := hb.2.2.2.2.1
    have o : ∀ i, i < 37 → i ≠ 3 → itT (muT t m 4) k i = t i := fun i hi h3 => by rw [i2 i (by omega) h3, om i (by omega)]
    have h1I : w1T (itT (muT t m 4) k) := fun w hw2 => by
      rw [o 1 (by omega) (by omega)] at hw2
      have := hb.2.2.1
      rw [o _ (by omega) (by omega)]; exact h1 w hw2
    have e49 : ∀ s, s < 4 → itT (muT t m 4) k (49 + s) = ((m / 2 ^ s % 2 : Nat) : Int) := fun s hs => by rw [i2 _ (by omega) (by omega), muT_49 t m 4 hs]
    rw [itT_s]
    generalize itT (muT t m 4) k = u at *
    have gd := fun (s : Nat) (hs : s < 4) => go_due hbI hs
    have gt := fun (s : Nat) (hs : s < 4) (hs2 : (s : Int) < t 2) => go_told hbI hs (by rw [o 2 (by omega) (by omega)]; exact hs2)
    refine ⟨fun p hp => ?_, fun i hi h3 => ?_, fun s hs hs2 => ?_⟩
    · have gc := go_cell hbI h1I (by omega) hp hn
      rw [eI] at gc
      have ip := i1 p hp
      refine ⟨fun c => ?_, fun c => ?_⟩
      · by_cases c1 : foD t m n p ≤ t 3 + (k : Int)
        · have e := ip.1 c1
          have := q1 p hp
          rw [gc.1 (by omega), e]
        · have e := ip.2 (by omega)
          have src : Src u (t 3 + (k : Int) + 1) p n := by
            by_cases cf : foD t m n p = fsT t m n (t 2).toNat p
            · rcases fsT_f2 (t := t) (m := m) (n := n) p (t 2).toNat with e2 | ⟨s, s1, s2, s3, s4⟩
              · exfalso
                rw [e2, fsT_0] at cf
                split at cf
                · omega
                · have : kw t p n ≤ t 3 := hb.2.2.2.2.2.2.2.2.2 (61 + 4 * p + n) (by omega)
                  omega
              · have hp' := (hb.2.2.2.2.2.2.2.1 s (by omega)).2.1
                have x := i3 s (by omega) (by omega)
                refine Or.inr ⟨s, by omega, by rw [o 2 (by omega) (by omega)]; omega, ?_, ?_, ?_, ?_⟩
                · rw [x.1, if_neg (by omega)]; omega
                · rw [o _ (by omega) (by omega)]; omega
                · rw [e49 s (by omega), s2.2.1]; rfl
                · rw [x.2 (by omega)]; exact s2.2.2
            · obtain ⟨w, w1, w2⟩ := q4 p cf
              have w8 : w < 8 := by have := hb.2.2.1; omega
              have we := hb.2.2.2.2.2.2.1 w w8
              have wl := h1 w w1
              rcases w2 with ⟨x1, x2⟩ | ⟨x1, x2⟩
              · have x2' : foD t m n p = foD t m n (t (5 + w)).toNat + 3 * t (21 + w) := x2
                have iq := (i1 (t (5 + w)).toNat (by omega)).1 (by omega)
                have := q1 (t (5 + w)).toNat (by omega)
                refine Or.inl ⟨w, (t (5 + w)).toNat, w8, by rw [o 1 (by omega) (by omega)]; exact w1, by omega, Or.inr ⟨?_, ?_⟩, by omega, ?_⟩
                · rw [o _ (by omega) (by omega)]; omega
                · rw [o _ (by omega) (by omega)]; omega
                · rw [o _ (by omega) (by omega)]; omega
              · have x2' : foD t m n p = foD t m n (t (13 + w)).toNat + 3 * t (21 + w) := x2
                have iq := (i1 (t (13 + w)).toNat (by omega)).1 (by omega)
                have := q1 (t (13 + w)).toNat (by omega)
                refine Or.inl ⟨w, (t (13 + w)).toNat, w8, by rw [o 1 (by omega) (by omega)]; exact w1, by omega, Or.inl ⟨?_, ?_⟩, by omega, ?_⟩
                · rw [o _ (by omega) (by omega)]; omega
                · rw [o _ (by omega) (by omega)]; omega
                · rw [o _ (by omega) (by omega)]; omega
          rw [gc.2.1 e src]
          omega
      · refine gc.2.2 (ip.2 (by omega)) ?_
        rintro (⟨w, q, w8, w1, q6, wb, kq, kl⟩ | ⟨s, s4, s2, sd, sp, sm, sb⟩)
        · rw [o 1 (by omega) (by omega)] at w1
          have wl := h1 w w1
          have cl := q2 w w1
          have cl1 : foD t m n (t (13 + w)).toNat ≤ foD t m n (t (5 + w)).toNat + 3 * t (21 + w) := cl.1
          have cl2 : foD t m n (t (5 + w)).toNat ≤ foD t m n (t (13 + w)).toNat + 3 * t (21 + w) := cl.2
          unfold wayB at wb
          rw [o _ (by omega) (by omega), o _ (by omega) (by omega)] at wb
          rw [o _ (by omega) (by omega)] at kl
          have iq := i1 q q6
          have dq : foD t m n q ≤ t 3 + (k : Int) := by
            by_cases x : foD t m n q ≤ t 3 + (k : Int)
            · exact x
            · have := iq.2 (by omega); omega
          have eq := iq.1 dq
          rcases wb with ⟨x1, x2⟩ | ⟨x1, x2⟩
          · rw [x1, x2, show ((p : Int)).toNat = p from rfl, show ((q : Int)).toNat = q from rfl] at cl2
            omega
          · rw [x1, x2, show ((p : Int)).toNat = p from rfl, show ((q : Int)).toNat = q from rfl] at cl1
            omega
        · rw [o 2 (by omega) (by omega)] at s2
          have x := i3 s s4 s2
          rw [x.1] at sd
          have x3 : t (37 + s) = t 3 + (k : Int) + 1 := by
            split at sd <;> omega
          rw [x.2 (by omega)] at sb
          rw [e49 s s4] at sm
          rw [o _ (by omega) (by omega)] at sp
          have f3 := fsT_f3 (t := t) (m := m) (n := n) (s := s) ⟨by omega, by omega, sb⟩ (t 2).toNat (by omega)
          rw [sp, show ((p : Int)).toNat = p from rfl] at f3
          have := q3 p
          omega
    · rw [goT_o hbI hi h3]; exact i2 i hi h3
    · have x := i3 s hs hs2
      have g37 := gd s hs
      rw [o 2 (by omega) (by omega), eI, x.1] at g37
      have ns := (hsh s hs hs2).2.2.1
      have e37 : (goT u).1 (37 + s) = if t (37 + s) ≤ t 3 + ((k + 1 : Nat) : Int) then 0 else t (37 + s) := by
        rw [g37]
        by_cases c1 : t (37 + s) ≤ t 3 + (k : Int)
        · rw [if_pos c1, if_pos (show t (37 + s) ≤ t 3 + ((k + 1 : Nat) : Int) by omega)]
          split <;> rfl
        · rw [if_neg c1]
          by_cases c2 : t (37 + s) = t 3 + (k : Int) + 1
          · rw [if_pos ⟨hs2, c2⟩, if_pos (by omega)]
          · rw [if_neg (fun h => c2 h.2), if_neg (by omega)]
      refine ⟨e37, fun c => ?_⟩
      rw [gt s hs hs2, e37, if_neg (show ¬ t (37 + s) ≤ t 3 + ((k + 1 : Nat) : Int) by omega), if_neg (fun h => by omega)]
      exact x.2 (by omega)
