/-! ===== mathematics: five rounds are enough for six ports ===== -/
theorem hfT_le (a b : Nat) (c : Int) (g : Nat → Int) (p : Nat) : hfT a b c g p ≤ g p := by
  unfold hfT
  split
  · by_cases e : p = b
    · subst e; rw [updI_s]; omega
    · rw [updI_n e]; omega
  · omega
theorem hfT_b (a b : Nat) (c : Int) (g : Nat → Int) : hfT a b c g b ≤ g a + c := by
  unfold hfT
  split
  · rw [updI_s]; omega
  · omega
theorem hfT_g {a b : Nat} {c : Int} {g h : Nat → Int} (hg : ∀ p, h p ≤ g p) (hc : h b ≤ h a + c) (p : Nat) : h p ≤ hfT a b c g p := by
  unfold hfT
  split
  · by_cases e : p = b
    · subst e; rw [updI_s]; have := hg a; omega
    · rw [updI_n e]; exact hg p
  · exact hg p
/-- no way makes a day sink -/
def clT (t dl h : Nat → Int) : Prop := ∀ w : Nat, (w : Int) < t 1 → h (t (13 + w)).toNat ≤ h (t (5 + w)).toNat + dl w ∧ h (t (5 + w)).toNat ≤ h (t (13 + w)).toNat + dl w
theorem paT_le (t dl g : Nat → Int) (p : Nat) : ∀ k, paT t dl g k p ≤ g p
  | 0 => by simp [paT]
  | k + 1 => by
    rw [paT_s]
    have ih := paT_le t dl g p k
    unfold slT
    have h1 := hfT_le (t (13 + k)).toNat (t (5 + k)).toNat (dl k) (hfT (t (5 + k)).toNat (t (13 + k)).toNat (dl k) (paT t dl g k)) p
    have h2 := hfT_le (t (5 + k)).toNat (t (13 + k)).toNat (dl k) (paT t dl g k) p
    omega
theorem paT_m (t dl g : Nat → Int) (p : Nat) {j : Nat} : ∀ k, j ≤ k → paT t dl g k p ≤ paT t dl g j p
  | 0, h => by rw [show j = 0 by omega]; omega
  | k + 1, h => by
    by_cases e : j = k + 1
    · rw [e]; omega
    · have ih := paT_m t dl g p k (j := j) (by omega)
      rw [paT_s]
      unfold slT
      have h1 := hfT_le (t (13 + k)).toNat (t (5 + k)).toNat (dl k) (hfT (t (5 + k)).toNat (t (13 + k)).toNat (dl k) (paT t dl g k)) p
      have h2 := hfT_le (t (5 + k)).toNat (t (13 + k)).toNat (dl k) (paT t dl g k) p
      omega
theorem paT_g {t dl g h : Nat → Int} (hg : ∀ p, h p ≤ g p) (hc : clT t dl h) (p : Nat) : ∀ k : Nat, (k : Int) ≤ t 1 → h p ≤ paT t dl g k p
  | 0, _ => hg p
  | k + 1, hk => by
    have ih : ∀ p, h p ≤ paT t dl g k p := fun p => paT_g hg hc p k (by omega)
    have := hc k (by omega)
    rw [paT_s]
    unfold slT
    exact hfT_g (hfT_g ih this.1) this.2 p
theorem paT_w {t dl g : Nat → Int} {w k : Nat} (hw : w < k) : paT t dl g k (t (13 + w)).toNat ≤ g (t (5 + w)).toNat + dl w ∧ paT t dl g k (t (5 + w)).toNat ≤ g (t (13 + w)).toNat + dl w := by
  have m1 := paT_m t dl g (t (13 + w)).toNat k (j := w + 1) (by omega)
  have m2 := paT_m t dl g (t (5 + w)).toNat k (j := w + 1) (by omega)
  have l1 := paT_le t dl g (t (5 + w)).toNat w
  have l2 := paT_le t dl g (t (13 + w)).toNat w
  rw [paT_s] at m1 m2
  unfold slT at m1 m2
  have h1 := hfT_le (t (13 + w)).toNat (t (5 + w)).toNat (dl w) (hfT (t (5 + w)).toNat (t (13 + w)).toNat (dl w) (paT t dl g w)) (t (13 + w)).toNat
  have h2 := hfT_b (t (5 + w)).toNat (t (13 + w)).toNat (dl w) (paT t dl g w)
  have h3 := hfT_b (t (13 + w)).toNat (t (5 + w)).toNat (dl w) (hfT (t (5 + w)).toNat (t (13 + w)).toNat (dl w) (paT t dl g w))
  have h4 := hfT_le (t (5 + w)).toNat (t (13 + w)).toNat (dl w) (paT t dl g w) (t (13 + w)).toNat
  omega
theorem piT_c (t dl g : Nat → Int) : ∀ n, piT t dl (paT t dl g (t 1).toNat) n = paT t dl (piT t dl g n) (t 1).toNat := by
  intro n
  induction n generalizing g with
  | zero => rfl
  | succ n ih => rw [piT_s, ih, ← piT_s]
theorem piT_n (t dl g : Nat → Int) (n : Nat) : piT t dl g (n + 1) = paT t dl (piT t dl g n) (t 1).toNat := by rw [piT_s, piT_c]
theorem piT_le (t dl g : Nat → Int) (p : Nat) : ∀ n, piT t dl g n p ≤ g p
  | 0 => by simp [piT]
  | n + 1 => by
    rw [piT_n]
    have ih := piT_le t dl g p n
    have := paT_le t dl (piT t dl g n) p (t 1).toNat
    omega
theorem piT_g {t dl g h : Nat → Int} (ht : 0 ≤ t 1) (hg : ∀ p, h p ≤ g p) (hc : clT t dl h) (p : Nat) : ∀ n, h p ≤ piT t dl g n p
  | 0 => hg p
  | n + 1 => by
    rw [piT_n]
    exact paT_g (fun p => piT_g ht hg hc p n) hc p _ (by omega)
theorem piT_fix {t dl g : Nat → Int} {n : Nat} (h : paT t dl (piT t dl g n) (t 1).toNat = piT t dl g n) : ∀ k, piT t dl g (n + k) = piT t dl g n
  | 0 => rfl
  | k + 1 => by rw [show n + (k + 1) = (n + k) + 1 by omega, piT_n, piT_fix h k, h]
theorem clT_fix {t dl g : Nat → Int} (h : paT t dl g (t 1).toNat = g) : clT t dl g := by
  intro w hw
  have := paT_w (t := t) (dl := dl) (g := g) (w := w) (k := (t 1).toNat) (by omega)
  rw [h] at this
  exact this
/-- ways of a league: at most eight, between six ports, of a day at least -/
def wyT (t dl : Nat → Int) : Prop := (0 ≤ t 1 ∧ t 1 ≤ 8) ∧ (∀ w, w < 8 → (0 ≤ t (5 + w) ∧ t (5 + w) < 6) ∧ 0 ≤ t (13 + w) ∧ t (13 + w) < 6) ∧ (∀ w, w < 8 → 0 ≤ dl w) ∧ ∀ w : Nat, (w : Int) < t 1 → 1 ≤ dl w
theorem piT_end {t dl : Nat → Int} (hw : wyT t dl) : ∀ (N : Nat) (g : Nat → Int), gB g → sm6 g ≤ N → ∃ n, paT t dl (piT t dl g n) (t 1).toNat = piT t dl g n := by
  intro N
  induction N with
  | zero =>
    intro g hg hN
    have hP := paT_d (t := t) (dl := dl) (g := g) hw.2.1 (t 1).toNat (by have := hw.1; omega)
    have hG := sm6_0 (gB_pa (t := t) (dl := dl) hg hw.2.1 hw.2.2.1 (t 1).toNat (by have := hw.1; omega))
    rcases hP with hP | hP
    · exact ⟨0, hP⟩
    · exfalso; omega
  | succ N ih =>
    intro g hg hN
    have hP := paT_d (t := t) (dl := dl) (g := g) hw.2.1 (t 1).toNat (by have := hw.1; omega)
    have hG := gB_pa (t := t) (dl := dl) hg hw.2.1 hw.2.2.1 (t 1).toNat (by have := hw.1; omega)
    rcases hP with hP | hP
    · exact ⟨0, hP⟩
    · obtain ⟨n, hn⟩ := ih _ hG (by omega)
      exact ⟨n + 1, hn⟩
theorem min_ex (d : Nat → Int) (P : Nat → Prop) [DecidablePred P] : ∀ n : Nat, (∃ v, v < n ∧ P v) → ∃ v, v < n ∧ P v ∧ ∀ u, u < n → P u → d v ≤ d u
  | 0, h => by obtain ⟨v, hv, _⟩ := h; omega
  | n + 1, h => by
    by_cases h1 : ∃ v, v < n ∧ P v
    · obtain ⟨v, hv, hp, hm⟩ := min_ex d P n h1
      by_cases h2 : P n ∧ d n < d v
      · refine ⟨n, by omega, h2.1, fun u hu hpu => ?_⟩
        by_cases e : u = n
        · rw [e]; omega
        · have := hm u (by omega) hpu; omega
      · refine ⟨v, by omega, hp, fun u hu hpu => ?_⟩
        by_cases e : u = n
        · subst e
          have : ¬ d u < d v := fun h => h2 ⟨hpu, h⟩
          omega
        · exact hm u (by omega) hpu
    · obtain ⟨v, hv, hp⟩ := h
      have e : v = n := by
        by_cases e : v = n
        · exact e
        · exact absurd ⟨v, by omega, hp⟩ h1
      subst e
      refine ⟨v, by omega, hp, fun u hu hpu => ?_⟩
      by_cases e : u = v
      · rw [e]; omega
      · exact absurd ⟨u, by omega, hpu⟩ h1
/-- a day that is as it was, or comes along a way -/
theorem tight {t dl f d : Nat → Int} (hw : wyT t dl) (hd : clT t dl d) (hle : ∀ p, d p ≤ f p) (hg : ∀ h, clT t dl h → (∀ p, h p ≤ f p) → ∀ p, h p ≤ d p) (v : Nat) (hv : d v ≠ f v) : ∃ w : Nat, (w : Int) < t 1 ∧ (((t (13 + w)).toNat = v ∧ d v = d (t (5 + w)).toNat + dl w) ∨ ((t (5 + w)).toNat = v ∧ d v = d (t (13 + w)).toNat + dl w)) := by
  by_cases hx : ∃ w : Nat, (w : Int) < t 1 ∧ (((t (13 + w)).toNat = v ∧ d v = d (t (5 + w)).toNat + dl w) ∨ ((t (5 + w)).toNat = v ∧ d v = d (t (13 + w)).toNat + dl w))
  · exact hx
  · exfalso
    have h1 := hg (updI d v (d v + 1)) ?_ ?_ v
    · rw [updI_s] at h1; omega
    · intro w hw1
      have hc := hd w hw1
      have h1 := hw.2.2.2 w hw1
      have hn : ¬ (((t (13 + w)).toNat = v ∧ d v = d (t (5 + w)).toNat + dl w) ∨ ((t (5 + w)).toNat = v ∧ d v = d (t (13 + w)).toNat + dl w)) := fun h => hx ⟨w, hw1, h⟩
      generalize (t (13 + w)).toNat = b at *
      generalize (t (5 + w)).toNat = a at *
      unfold updI
      by_cases ea : a = v
      · by_cases eb : b = v
        · subst ea; subst eb; rw [if_pos rfl]; omega
        · subst ea; rw [if_pos rfl, if_neg eb]
          have : ¬ d a = d b + dl w := fun h => hn (Or.inr ⟨rfl, h⟩)
          omega
      · by_cases eb : b = v
        · subst eb; rw [if_pos rfl, if_neg ea]
          have : ¬ d b = d a + dl w := fun h => hn (Or.inl ⟨rfl, h⟩)
          omega
        · rw [if_neg ea, if_neg eb]; omega
    · intro p
      by_cases e : p = v
      · subst e; rw [updI_s]; have := hle p; omega
      · rw [updI_n e]; exact hle p
/-- ports whose day isn't settled yet -/
def ct6 (d g : Nat → Int) : Nat := (if g 0 = d 0 then 0 else 1) + (if g 1 = d 1 then 0 else 1) + (if g 2 = d 2 then 0 else 1) + (if g 3 = d 3 then 0 else 1) + (if g 4 = d 4 then 0 else 1) + (if g 5 = d 5 then 0 else 1)
theorem ct6_lt {d g h : Nat → Int} (hk : ∀ p, g p = d p → h p = d p) {v : Nat} (hv : v < 6) (h1 : g v ≠ d v) (h2 : h v = d v) : ct6 d h < ct6 d g := by
  have k : ∀ p, (if h p = d p then 0 else 1) ≤ (if g p = d p then (0 : Nat) else 1) := fun p => by
    have := hk p
    by_cases e : g p = d p
    · rw [if_pos e, if_pos (this e)]; omega
    · rw [if_neg e]; split <;> omega
  have l : (if h v = d v then 0 else 1) < (if g v = d v then (0 : Nat) else 1) := by rw [if_pos h2, if_neg h1]; omega
  have k0 := k 0; have k1 := k 1; have k2 := k 2; have k3 := k 3; have k4 := k 4; have k5 := k 5
  unfold ct6
  have hc : v = 0 ∨ v = 1 ∨ v = 2 ∨ v = 3 ∨ v = 4 ∨ v = 5 := by omega
  rcases hc with rfl | rfl | rfl | rfl | rfl | rfl <;> omega
theorem ct6_0 {d g : Nat → Int} (h : ct6 d g = 0) {p : Nat} (hp : p < 6) : g p = d p := by
  unfold ct6 at h
  have hc : p = 0 ∨ p = 1 ∨ p = 2 ∨ p = 3 ∨ p = 4 ∨ p = 5 := by omega
  rcases hc with rfl | rfl | rfl | rfl | rfl | rfl
  all_goals (refine Decidable.byContradiction fun hn => ?_; rw [if_neg hn] at h; omega)
theorem paT_hi {t dl g : Nat → Int} (hw : wyT t dl) {p : Nat} (hp : 6 ≤ p) : ∀ k, k ≤ 8 → paT t dl g k p = g p
  | 0, _ => rfl
  | k + 1, hk => by
    have ih := paT_hi hw hp k (by omega) (g := g)
    have := hw.2.1 k (by omega)
    rw [paT_s]
    unfold slT hfT
    (repeat' split) <;> (try rw [updI_n (by omega)]) <;> (try rw [updI_n (by omega)]) <;> exact ih
theorem piT_hi {t dl g : Nat → Int} (hw : wyT t dl) {p : Nat} (hp : 6 ≤ p) : ∀ n, piT t dl g n p = g p
  | 0 => rfl
  | n + 1 => by rw [piT_n, paT_hi hw hp _ (by have := hw.1; omega), piT_hi hw hp n]
theorem piT_5 {t dl f : Nat → Int} (hw : wyT t dl) (hf : gB f) : paT t dl (piT t dl f 5) (t 1).toNat = piT t dl f 5 := by
  obtain ⟨N, hN⟩ := piT_end hw (sm6 f).toNat f hf (by have := sm6_0 hf; omega)
  have hcl := clT_fix hN
  have hle := fun p => piT_le t dl f p N
  have hgr : ∀ h, clT t dl h → (∀ p, h p ≤ f p) → ∀ p, h p ≤ piT t dl f N p := fun h h1 h2 p => piT_g hw.1.1 h2 h1 p N
  generalize hD : piT t dl f N = D at *
  have tg := fun v hv => tight hw hcl hle hgr v hv
  have low : ∀ n p, D p ≤ piT t dl f n p := fun n p => piT_g hw.1.1 hle hcl p n
  have step : ∀ n, ct6 D (piT t dl f n) ≠ 0 → ct6 D (piT t dl f (n + 1)) < ct6 D (piT t dl f n) := by
    intro n hn
    have hex : ∃ v, v < 6 ∧ piT t dl f n v ≠ D v := by
      refine Decidable.byContradiction fun hx => hn ?_
      have : ∀ v, v < 6 → piT t dl f n v = D v := fun v hv => Decidable.byContradiction fun h => hx ⟨v, hv, h⟩
      unfold ct6
      rw [if_pos (this 0 (by omega)), if_pos (this 1 (by omega)), if_pos (this 2 (by omega)), if_pos (this 3 (by omega)), if_pos (this 4 (by omega)), if_pos (this 5 (by omega))]
    obtain ⟨v, hv, hv1, hv2⟩ := min_ex D (fun v => piT t dl f n v ≠ D v) 6 hex
    refine ct6_lt (fun p hp => ?_) hv hv1 ?_
    · have h1 := low (n + 1) p
      have h2 := paT_le t dl (piT t dl f n) p (t 1).toNat
      rw [← piT_n] at h2
      omega
    · have hf1 : D v ≠ f v := by
        intro e
        have h1 := piT_le t dl f v n
        have h2 := low n v
        exact hv1 (by omega)
      obtain ⟨w, hw1, hw2⟩ := tg v hf1
      have hd := hw.2.2.2 w hw1
      have hends := hw.2.1 w (by have := hw.1; omega)
      have hp := paT_w (t := t) (dl := dl) (g := piT t dl f n) (w := w) (k := (t 1).toNat) (by omega)
      rw [← piT_n] at hp
      have h3 := low (n + 1) v
      rcases hw2 with ⟨e1, e2⟩ | ⟨e1, e2⟩
      · rw [e1] at hp
        have hu : piT t dl f n (t (5 + w)).toNat = D (t (5 + w)).toNat := by
          refine Decidable.byContradiction fun hn => ?_
          have := hv2 (t (5 + w)).toNat (by omega) hn
          omega
        omega
      · rw [e1] at hp
        have hu : piT t dl f n (t (13 + w)).toNat = D (t (13 + w)).toNat := by
          refine Decidable.byContradiction fun hn => ?_
          have := hv2 (t (13 + w)).toNat (by omega) hn
          omega
        omega
  have c0 : ct6 D (piT t dl f 0) ≤ 5 := by
    obtain ⟨v, hv, _, hv2⟩ := min_ex D (fun _ => True) 6 ⟨0, by omega, trivial⟩
    have hf1 : D v = f v := by
      refine Decidable.byContradiction fun hn => ?_
      obtain ⟨w, hw1, hw2⟩ := tg v hn
      have hd := hw.2.2.2 w hw1
      have hends := hw.2.1 w (by have := hw.1; omega)
      have u1 := hv2 (t (5 + w)).toNat (by omega) trivial
      have u2 := hv2 (t (13 + w)).toNat (by omega) trivial
      rcases hw2 with ⟨e1, e2⟩ | ⟨e1, e2⟩ <;> omega
    have e0 : piT t dl f 0 v = D v := hf1.symm
    unfold ct6
    have z : ∀ p, (if piT t dl f 0 p = D p then (0 : Nat) else 1) ≤ 1 := fun p => by split <;> omega
    have z0 := z 0; have z1 := z 1; have z2 := z 2; have z3 := z 3; have z4 := z 4; have z5 := z 5
    have zv : (if piT t dl f 0 v = D v then (0 : Nat) else 1) = 0 := if_pos e0
    have hc : v = 0 ∨ v = 1 ∨ v = 2 ∨ v = 3 ∨ v = 4 ∨ v = 5 := by omega
    rcases hc with rfl | rfl | rfl | rfl | rfl | rfl <;> omega
  have cN : ∀ n, ct6 D (piT t dl f n) ≤ 5 - n := by
    intro n
    induction n with
    | zero => exact c0
    | succ n ih =>
      by_cases e : ct6 D (piT t dl f n) = 0
      · have : ct6 D (piT t dl f (n + 1)) = 0 := by
          have hp : ∀ p, p < 6 → piT t dl f (n + 1) p = D p := fun p hp => by
            have h1 := ct6_0 e hp
            have h2 := low (n + 1) p
            have h3 := paT_le t dl (piT t dl f n) p (t 1).toNat
            rw [← piT_n] at h3
            omega
          unfold ct6
          rw [if_pos (hp 0 (by omega)), if_pos (hp 1 (by omega)), if_pos (hp 2 (by omega)), if_pos (hp 3 (by omega)), if_pos (hp 4 (by omega)), if_pos (hp 5 (by omega))]
        omega
      · have := step n e
        omega
  have e5 : piT t dl f 5 = D := by
    funext p
    by_cases hp : p < 6
    · exact ct6_0 (by have := cN 5; omega) hp
    · rw [← hD, piT_hi hw (by omega), piT_hi hw (by omega)]
  rw [e5]
  exact hN
/-- wherever it ends, it is what five rounds give -/
theorem piT_u {t dl f : Nat → Int} (hw : wyT t dl) (hf : gB f) {n : Nat} (hn : paT t dl (piT t dl f n) (t 1).toNat = piT t dl f n) : piT t dl f n = piT t dl f 5 := by
  have h1 := piT_fix hn 5
  have h2 := piT_fix (piT_5 hw hf) n
  rw [← h1, ← h2, Nat.add_comm]
