/-! ===== the reference: a day goes by ===== -/
/-- what the numbers of a league are, but for pence -/
def bT (t : Nat → Int) : Prop := tC t ∧ (0 ≤ t 0 ∧ t 0 ≤ 6) ∧ (0 ≤ t 1 ∧ t 1 ≤ 8) ∧ (0 ≤ t 2 ∧ t 2 ≤ 4) ∧ (0 ≤ t 3 ∧ t 3 ≤ 150) ∧ (0 ≤ t 4 ∧ t 4 ≤ 4) ∧
  (∀ w, w < 8 → (0 ≤ t (5 + w) ∧ t (5 + w) < 6) ∧ (0 ≤ t (13 + w) ∧ t (13 + w) < 6) ∧ (0 ≤ t (21 + w) ∧ t (21 + w) ≤ 9)) ∧
  (∀ s, s < 4 → (0 ≤ t (29 + s) ∧ t (29 + s) ≤ 5) ∧ (0 ≤ t (33 + s) ∧ t (33 + s) < 6) ∧ 0 ≤ t (37 + s) ∧ (0 ≤ t (45 + s) ∧ t (45 + s) < 16)) ∧
  (∀ n, n < 4 → 0 ≤ t (53 + n) ∧ t (53 + n) ≤ t 3) ∧ ∀ i, 61 ≤ i → t i ≤ t 3
theorem heT_o (p f : Nat) (L : Int) (t : Nat → Int) {i : Nat} (hi : i < 61) : ∀ k, (heT p f L t k).1 i = t i
  | 0 => rfl
  | k + 1 => by
    have ih := heT_o p f L t hi k
    rw [heT_s]
    split
    · simp only
      rw [updI_n (by omega)]
      exact ih
    · exact ih
theorem heT_k (p f : Nat) (L : Int) (t : Nat → Int) (i : Nat) : ∀ k, (heT p f L t k).1 i = t i ∨ (heT p f L t k).1 i = t 3
  | 0 => Or.inl rfl
  | k + 1 => by
    have ih := heT_k p f L t i k
    have e1 := heT_o p f L t (i := 3) (by omega) k
    rw [heT_s]
    split
    · simp only
      by_cases e : i = 61 + 4 * p + k
      · subst e
        rw [updI_s, e1]
        exact Or.inr rfl
      · rw [updI_n e]
        exact ih
    · exact ih
/-- the same but for pence and what is known -/
theorem bT_of {t u : Nat → Int} (h : bT t) (hC : tC u) (h1 : ∀ i, i < 41 → u i = t i) (h2 : ∀ i, 45 ≤ i → i < 49 → u i = t i) (h3 : ∀ i, 53 ≤ i → i < 57 → u i = t i) (h4 : ∀ i, 61 ≤ i → u i ≤ t 3) : bT u := by
  obtain ⟨-, a0, a1, a2, a3, a4, aw, as, an, ak⟩ := h
  refine ⟨hC, by rw [h1 0 (by omega)]; exact a0, by rw [h1 1 (by omega)]; exact a1, by rw [h1 2 (by omega)]; exact a2, by rw [h1 3 (by omega)]; exact a3, by rw [h1 4 (by omega)]; exact a4, fun w hw => ?_, fun s hs => ?_, fun n hn => ?_, fun i hi => by rw [h1 3 (by omega)]; exact h4 i hi⟩
  · rw [h1 (5 + w) (by omega), h1 (13 + w) (by omega), h1 (21 + w) (by omega)]; exact aw w hw
  · rw [h1 (29 + s) (by omega), h1 (33 + s) (by omega), h1 (37 + s) (by omega), h2 (45 + s) (by omega) (by omega)]; exact as s hs
  · rw [h3 (53 + n) (by omega) (by omega), h1 3 (by omega)]; exact an n hn
theorem bT_he {t : Nat → Int} (h : bT t) (p f : Nat) (L : Int) (k : Nat) : bT (heT p f L t k).1 :=
  bT_of h (heT_C h.1 k) (fun i hi => heT_o p f L t (by omega) k) (fun i _ hi => heT_o p f L t (by omega) k) (fun i _ hi => heT_o p f L t (by omega) k) (fun i hi => by
    rcases heT_k p f L t i k with e | e
    · rw [e]; exact h.2.2.2.2.2.2.2.2.2 i hi
    · rw [e]; omega)
/-- signals on the first k ways -/
def waT (t : Nat → Int) : Nat → (Nat → Int) × Int
  | 0 => (t, 0)
  | k + 1 => ((heT (t (13 + k)).toNat (t (5 + k)).toNat (t (21 + k)) (heT (t (5 + k)).toNat (t (13 + k)).toNat (t (21 + k)) (waT t k).1 4).1 4).1, (waT t k).2 + (heT (t (5 + k)).toNat (t (13 + k)).toNat (t (21 + k)) (waT t k).1 4).2 + (heT (t (13 + k)).toNat (t (5 + k)).toNat (t (21 + k)) (heT (t (5 + k)).toNat (t (13 + k)).toNat (t (21 + k)) (waT t k).1 4).1 4).2)
theorem waT_s (t : Nat → Int) (k : Nat) : waT t (k + 1) = ((heT (t (13 + k)).toNat (t (5 + k)).toNat (t (21 + k)) (heT (t (5 + k)).toNat (t (13 + k)).toNat (t (21 + k)) (waT t k).1 4).1 4).1, (waT t k).2 + (heT (t (5 + k)).toNat (t (13 + k)).toNat (t (21 + k)) (waT t k).1 4).2 + (heT (t (13 + k)).toNat (t (5 + k)).toNat (t (21 + k)) (heT (t (5 + k)).toNat (t (13 + k)).toNat (t (21 + k)) (waT t k).1 4).1 4).2) := rfl
theorem waT_o (t : Nat → Int) {i : Nat} (hi : i < 61) : ∀ k, (waT t k).1 i = t i
  | 0 => rfl
  | k + 1 => by
    rw [waT_s]
    simp only
    rw [heT_o _ _ _ _ hi, heT_o _ _ _ _ hi]
    exact waT_o t hi k
theorem waT_b {t : Nat → Int} (h : bT t) : ∀ k, bT (waT t k).1
  | 0 => h
  | k + 1 => by
    rw [waT_s]
    exact bT_he (bT_he (waT_b h k) _ _ _ _) _ _ _ _
theorem waT_2 (t : Nat → Int) : ∀ k, 0 ≤ (waT t k).2 ∧ (waT t k).2 ≤ 8 * k
  | 0 => by simp [waT]
  | k + 1 => by
    have ih := waT_2 t k
    have h1 := heT_2 4 (p := (t (5 + k)).toNat) (f := (t (13 + k)).toNat) (L := t (21 + k)) (t := (waT t k).1)
    have h2 := heT_2 4 (p := (t (13 + k)).toNat) (f := (t (5 + k)).toNat) (L := t (21 + k)) (t := (heT (t (5 + k)).toNat (t (13 + k)).toNat (t (21 + k)) (waT t k).1 4).1)
    rw [waT_s]
    simp only
    omega
/-- the first k ships come in -/
def shT (t : Nat → Int) (m : Int) : Nat → (Nat → Int) × Int
  | 0 => (t, m)
  | k + 1 => if (shT t m k).1 (37 + k) = (shT t m k).1 3 then (if (shT t m k).1 (49 + k) = 0 then ((teT k ((shT t m k).1 (33 + k)).toNat (updI (shT t m k).1 (37 + k) 0) 4).1, (shT t m k).2 + (teT k ((shT t m k).1 (33 + k)).toNat (updI (shT t m k).1 (37 + k) 0) 4).2) else (updI (shT t m k).1 (37 + k) 0, (shT t m k).2)) else shT t m k
theorem shT_s (t : Nat → Int) (m : Int) (k : Nat) : shT t m (k + 1) = if (shT t m k).1 (37 + k) = (shT t m k).1 3 then (if (shT t m k).1 (49 + k) = 0 then ((teT k ((shT t m k).1 (33 + k)).toNat (updI (shT t m k).1 (37 + k) 0) 4).1, (shT t m k).2 + (teT k ((shT t m k).1 (33 + k)).toNat (updI (shT t m k).1 (37 + k) 0) 4).2) else (updI (shT t m k).1 (37 + k) 0, (shT t m k).2)) else shT t m k := rfl
theorem bT_due {t : Nat → Int} (h : bT t) {k : Nat} (hk : k < 4) : bT (updI t (37 + k) 0) := by
  obtain ⟨aC, a0, a1, a2, a3, a4, aw, as, an, ak⟩ := h
  refine ⟨tC_upd aC (by omega), by rw [updI_n (by omega)]; exact a0, by rw [updI_n (by omega)]; exact a1, by rw [updI_n (by omega)]; exact a2, by rw [updI_n (by omega)]; exact a3, by rw [updI_n (by omega)]; exact a4, fun w hw => ?_, fun s hs => ?_, fun n hn => ?_, fun i hi => ?_⟩
  · rw [updI_n (by omega), updI_n (by omega), updI_n (by omega)]; exact aw w hw
  · rw [updI_n (show 29 + s ≠ 37 + k by omega), updI_n (show 33 + s ≠ 37 + k by omega), updI_n (show 45 + s ≠ 37 + k by omega)]
    refine ⟨(as s hs).1, (as s hs).2.1, ?_, (as s hs).2.2.2⟩
    by_cases e : s = k
    · subst e; rw [updI_s]; omega
    · rw [updI_n (by omega)]; exact (as s hs).2.2.1
  · rw [updI_n (by omega), updI_n (by omega)]; exact an n hn
  · rw [updI_n (by omega), updI_n (by omega)]; exact ak i hi
theorem bT_te {t : Nat → Int} (h : bT t) {s : Nat} (hs : s < 4) (p : Nat) (hp : 0 ≤ t (41 + s) ∧ t (41 + s) ≤ 90000) : bT (teT s p t 4).1 :=
  bT_of h (teT_C h.1 hs (fun n hn => (h.2.2.2.2.2.2.2.2.1 n hn).2) hp (by omega)) (fun i hi => teT_o s p t (by omega) (by omega) 4) (fun i _ hi => teT_o s p t (by omega) (by omega) 4) (fun i _ hi => teT_o s p t (by omega) (by omega) 4) (fun i hi => by
    rcases teT_k s p t hi hs 4 with e | e
    · rw [e]; exact h.2.2.2.2.2.2.2.2.2 i hi
    · rw [e.2]; omega)
/-- the pence of ships that have come in are forty more at most -/
def pB (c : Int) (k : Nat) (t : Nat → Int) : Prop := ∀ s, s < 4 → 0 ≤ t (41 + s) ∧ t (41 + s) ≤ (if s < k then c + 40 else c)
theorem shT_b {t : Nat → Int} {m c : Int} (h : bT t) (hc : c ≤ 80000) (hp : pB c 0 t) : ∀ k, k ≤ 4 → bT (shT t m k).1 ∧ pB c k (shT t m k).1
  | 0, _ => ⟨h, hp⟩
  | k + 1, hk => by
    obtain ⟨ih, ip⟩ := shT_b h hc hp k (by omega)
    have b1 := bT_due ih (k := k) (by omega)
    have ipk := ip k (by omega)
    rw [if_neg (by omega)] at ipk
    have e41 : updI (shT t m k).1 (37 + k) 0 (41 + k) = (shT t m k).1 (41 + k) := updI_n (by omega)
    rw [shT_s]
    split
    · split
      · refine ⟨bT_te b1 (by omega) _ (by omega), fun s hs => ?_⟩
        simp only
        by_cases e : s = k
        · subst e
          have := teT_p s ((shT t m s).1 (33 + s)).toNat (updI (shT t m s).1 (37 + s) 0) hs (fun n hn => (b1.2.2.2.2.2.2.2.2.1 n hn).2) 4 (by omega)
          rw [if_pos (by omega)]
          omega
        · rw [teT_o _ _ _ (by omega) (by omega), updI_n (by omega)]
          have := ip s hs
          split at this <;> split <;> omega
      · refine ⟨b1, fun s hs => ?_⟩
        simp only
        rw [updI_n (by omega)]
        have := ip s hs
        split at this <;> split <;> omega
    · refine ⟨ih, fun s hs => ?_⟩
      have := ip s hs
      split at this <;> split <;> omega
theorem shT_2 (t : Nat → Int) (m : Int) : ∀ k, m ≤ (shT t m k).2 ∧ (shT t m k).2 ≤ m + 4 * k
  | 0 => by simp [shT]
  | k + 1 => by
    have ih := shT_2 t m k
    have h1 := teT_2 k ((shT t m k).1 (33 + k)).toNat (updI (shT t m k).1 (37 + k) 0) 4
    rw [shT_s]
    split
    · split
      · simp only; omega
      · simp only; omega
    · omega
/-- a day goes by: how many times a port came to know some news -/
def goT (t : Nat → Int) : (Nat → Int) × Int := (leT (shT (waT (updI t 3 (t 3 + 1)) (t 1).toNat).1 (waT (updI t 3 (t 3 + 1)) (t 1).toNat).2 (t 2).toNat).1 (t 2).toNat, (shT (waT (updI t 3 (t 3 + 1)) (t 1).toNat).1 (waT (updI t 3 (t 3 + 1)) (t 1).toNat).2 (t 2).toNat).2)
theorem bT_day {t : Nat → Int} (h : bT t) (hd : t 3 < 150) : bT (updI t 3 (t 3 + 1)) := by
  obtain ⟨aC, a0, a1, a2, a3, a4, aw, as, an, ak⟩ := h
  refine ⟨tC_upd aC (by omega), by rw [updI_n (by omega)]; exact a0, by rw [updI_n (by omega)]; exact a1, by rw [updI_n (by omega)]; exact a2, by rw [updI_s]; omega, by rw [updI_n (by omega)]; exact a4, fun w hw => ?_, fun s hs => ?_, fun n hn => ?_, fun i hi => ?_⟩
  · rw [updI_n (by omega), updI_n (by omega), updI_n (by omega)]; exact aw w hw
  · rw [updI_n (by omega), updI_n (by omega), updI_n (by omega), updI_n (by omega)]; exact as s hs
  · rw [updI_n (by omega), updI_s]; have := an n hn; omega
  · rw [updI_n (by omega), updI_s]; have := ak i hi; omega
/-- a number that may stand at place k of a league's row -/
def okZ (d : Int) (k : Nat) (z : Int) : Prop := (-1 ≤ z ∧ z ≤ 100000) ∧ (k = 0 → 0 ≤ z ∧ z ≤ 6) ∧ (k = 1 → 0 ≤ z ∧ z ≤ 8) ∧ (k = 2 → 0 ≤ z ∧ z ≤ 4) ∧ k ≠ 3 ∧ (k = 4 → 0 ≤ z ∧ z ≤ 4) ∧ (5 ≤ k ∧ k < 21 → 0 ≤ z ∧ z < 6) ∧ (21 ≤ k ∧ k < 29 → 0 ≤ z ∧ z ≤ 9) ∧ (29 ≤ k ∧ k < 33 → 0 ≤ z ∧ z ≤ 5) ∧ (33 ≤ k ∧ k < 37 → 0 ≤ z ∧ z < 6) ∧ (37 ≤ k ∧ k < 41 → 0 ≤ z) ∧ (45 ≤ k ∧ k < 49 → 0 ≤ z ∧ z < 16) ∧ (53 ≤ k ∧ k < 57 → 0 ≤ z ∧ z ≤ d) ∧ (61 ≤ k → z ≤ d)
theorem bT_upd {t : Nat → Int} {k : Nat} {z : Int} (h : bT t) (hz : okZ (t 3) k z) : bT (updI t k z) := by
  obtain ⟨aC, a0, a1, a2, a3, a4, aw, as, an, ak⟩ := h
  unfold okZ at hz
  have e3 : updI t k z 3 = t 3 := updI_n (by omega)
  have g : ∀ i, updI t k z i = t i ∨ (i = k ∧ updI t k z i = z) := fun i => by
    by_cases e : i = k
    · exact Or.inr ⟨e, by rw [e, updI_s]⟩
    · exact Or.inl (updI_n e)
  refine ⟨tC_upd aC hz.1, ?_, ?_, ?_, by rw [e3]; exact a3, ?_, fun w hw => ?_, fun s hs => ?_, fun n hn => ?_, fun i hi => ?_⟩
  · have := g 0; omega
  · have := g 1; omega
  · have := g 2; omega
  · have := g 4; omega
  · have g1 := g (5 + w); have g2 := g (13 + w); have g3 := g (21 + w); have := aw w hw
    refine ⟨?_, ?_, ?_⟩ <;> omega
  · have g1 := g (29 + s); have g2 := g (33 + s); have g3 := g (37 + s); have g4 := g (45 + s); have := as s hs
    refine ⟨?_, ?_, ?_, ?_⟩ <;> omega
  · have g1 := g (53 + n); have := an n hn
    rw [e3]; omega
  · have g1 := g i; have := ak i hi
    rw [e3]; omega
