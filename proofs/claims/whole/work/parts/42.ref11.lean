/-! ===== the reference: what comes if nobody sails ===== -/
def z85 (t : Nat → Int) : Prop := ∀ i, 85 ≤ i → t i = 0
theorem heT_hi {p f : Nat} {L : Int} {t : Nat → Int} {i : Nat} (hp : p < 6) (hi : 85 ≤ i) : ∀ k, k ≤ 4 → (heT p f L t k).1 i = t i
  | 0, _ => rfl
  | k + 1, hk => by
    have ih := heT_hi (f := f) (L := L) (t := t) hp hi k (by omega)
    rw [heT_s]
    split
    · simp only
      rw [updI_n (by omega)]
      exact ih
    · exact ih
theorem waT_hi {t : Nat → Int} (h : bT t) {i : Nat} (hi : 85 ≤ i) : ∀ k, k ≤ 8 → (waT t k).1 i = t i
  | 0, _ => rfl
  | k + 1, hk => by
    have hw := h.2.2.2.2.2.2.1 k (by omega)
    rw [waT_s]
    simp only
    rw [heT_hi (by omega) hi 4 (by omega), heT_hi (by omega) hi 4 (by omega)]
    exact waT_hi h hi k (by omega)
theorem teT_hi {s p : Nat} {t : Nat → Int} {i : Nat} (hp : p < 6) (hs : s < 4) (hi : 85 ≤ i) : ∀ k, k ≤ 4 → (teT s p t k).1 i = t i
  | 0, _ => rfl
  | k + 1, hk => by
    have ih := teT_hi (t := t) hp hs hi k (by omega)
    rw [teT_s]
    split
    · simp only
      rw [updI_n (by omega), updI_n (by omega)]
      exact ih
    · exact ih
theorem shT_hi {t : Nat → Int} {m : Int} (h : bT t) {i : Nat} (hi : 85 ≤ i) : ∀ k, k ≤ 4 → (shT t m k).1 i = t i
  | 0, _ => rfl
  | k + 1, hk => by
    have ih := shT_hi (m := m) h hi k (by omega)
    have e33 : (shT t m k).1 (33 + k) = t (33 + k) := shT_o t m (by omega) k (by omega)
    have hp := (h.2.2.2.2.2.2.2.1 k (by omega)).2.1
    rw [shT_s]
    split
    · split
      · simp only
        rw [teT_hi (by omega) (by omega) hi 4 (by omega), updI_n (by omega)]
        exact ih
      · simp only
        rw [updI_n (by omega)]
        exact ih
    · exact ih
theorem goT_hi {t : Nat → Int} (h : bT t) (hd : t 3 < 150) {i : Nat} (hi : 85 ≤ i) : (goT t).1 i = t i := by
  have a1 := h.2.2.1
  have a2 := h.2.2.2.1
  have ht := bT_day h hd
  have hA := waT_b ht (t 1).toNat
  unfold goT
  simp only
  rw [leT_o _ _ (by omega), shT_hi hA hi _ (by omega), waT_hi ht hi _ (by omega), updI_n (by omega)]
/-- a league's row, and nothing behind it -/
def wT (t : Nat → Int) : Prop := vT t ∧ z85 t
theorem wT_go {t : Nat → Int} (h : wT t) (hd : t 3 < 150) : wT (goT t).1 := ⟨vT_go h.1 hd, fun i hi => by rw [goT_hi h.1.1 hd hi]; exact h.2 i hi⟩
/-- n days go by -/
def itT (t : Nat → Int) : Nat → Nat → Int
  | 0 => t
  | n + 1 => (goT (itT t n)).1
theorem itT_s (t : Nat → Int) (n : Nat) : itT t (n + 1) = (goT (itT t n)).1 := rfl
theorem itT_w {t : Nat → Int} (h : wT t) : ∀ n : Nat, t 3 + (n : Int) ≤ 150 → wT (itT t n) ∧ itT t n 3 = t 3 + (n : Int)
  | 0, _ => ⟨h, by simp [itT]⟩
  | n + 1, hn => by
    obtain ⟨ih, e⟩ := itT_w h n (by omega)
    rw [itT_s]
    refine ⟨wT_go ih (by omega), ?_⟩
    rw [goT_3 ih.1.1, e]
    omega
/-- ships that tell nothing -/
def muT (t : Nat → Int) (m : Nat) : Nat → Nat → Int
  | 0 => t
  | k + 1 => updI (muT t m k) (49 + k) ((m / 2 ^ k % 2 : Nat) : Int)
theorem muT_s (t : Nat → Int) (m k : Nat) : muT t m (k + 1) = updI (muT t m k) (49 + k) ((m / 2 ^ k % 2 : Nat) : Int) := rfl
theorem muT_o (t : Nat → Int) (m : Nat) {i : Nat} : ∀ k, (i < 49 ∨ 49 + k ≤ i) → muT t m k i = t i
  | 0, _ => rfl
  | k + 1, h => by
    rw [muT_s, updI_n (by omega)]
    exact muT_o t m k (by omega)
theorem muT_w {t : Nat → Int} (h : wT t) (m : Nat) : ∀ k, k ≤ 4 → wT (muT t m k)
  | 0, _ => h
  | k + 1, hk => by
    obtain ⟨⟨ih, ip⟩, iz⟩ := muT_w h m k (by omega)
    have hm : (m / 2 ^ k % 2) < 2 := Nat.mod_lt _ (by omega)
    rw [muT_s]
    refine ⟨⟨bT_upd ih (by unfold okZ; omega), fun s hs => ?_⟩, fun i hi => ?_⟩
    · rw [updI_n (by omega), updI_n (by omega)]; exact ip s hs
    · rw [updI_n (by omega)]; exact iz i hi
theorem cpT_z {f g : Nat → Int} (hf : z85 f) (hg : z85 g) : cpT f 0 g 0 85 = f := by
  funext i
  unfold cpT
  split
  · rw [show 0 + (i - 0) = i by omega]
  · rw [hf i (by omega), hg i (by omega)]
/-- what the ports know of a news, in a row of six -/
def wiT (t : Nat → Int) (n : Nat) (g : Nat → Int) (k : Nat) : Nat → Int := fun p => if p < k then t (61 + 4 * p + n) else g p
theorem wiT_s (t : Nat → Int) (n : Nat) (g : Nat → Int) (k : Nat) : updI (wiT t n g k) k (t (61 + 4 * k + n)) = wiT t n g (k + 1) := by
  funext x
  unfold updI wiT
  by_cases h : x = k
  · subst h; rw [if_pos rfl, if_pos (by omega)]
  · rw [if_neg h]
    by_cases h2 : x < k
    · rw [if_pos h2, if_pos (by omega)]
    · rw [if_neg h2, if_neg (by omega)]
/-- the reference's trial: row 389 goes on to a day, row 390 tells from when ports know a news -/
def trE (E : Nat → Nat → Int) (m n : Nat) (till : Int) : Nat → Nat → Int := setR (setR E 389 (itT (muT (E 383) m 4) (till - E 383 3).toNat)) 390 (wiT (itT (muT (E 383) m 4) (till - E 383 3).toNat) n (E 390) 6)
