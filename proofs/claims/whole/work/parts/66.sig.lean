/-! ===== mathematics: the table of signals ===== -/
theorem mnI_l (x y : Int) : mnI x y ≤ x := by unfold mnI; split <;> omega
theorem mnI_r (x y : Int) : mnI x y ≤ y := by unfold mnI; split <;> omega
theorem mnI_c (x y : Int) : mnI x y = x ∨ mnI x y = y := by unfold mnI; split <;> simp
/-- no less than a potential's difference -/
def potG (h g : Nat → Int) : Prop := ∀ a b, a < 6 → b < 6 → h b - h a ≤ g (6 * a + b)
def diag (g : Nat → Int) : Prop := ∀ a, a < 6 → g (6 * a + a) = 0
theorem sfT_cell {c : Nat} (hc : c < 6) {g : Nat → Int} (hd : diag g) (hB : hB g) {x : Nat} (hx : x < 36) : ∀ k, k ≤ 36 → sfT c g k x = if x < k then mnI (g (6 * (x / 6) + c) + g (6 * c + x % 6)) (g x) else g x
  | 0, _ => by rw [if_neg (by omega)]; rfl
  | k + 1, hk => by
    have ih := sfT_cell hc hd hB hx k (by omega)
    have i1 := sfT_cell hc hd hB (x := 6 * (k / 6) + c) (by omega) k (by omega)
    have i2 := sfT_cell hc hd hB (x := 6 * c + k % 6) (by omega) k (by omega)
    have i3 := sfT_cell hc hd hB (x := k) (by omega) k (by omega)
    rw [if_neg (by omega)] at i3
    have dc := hd c hc
    have e1 : sfT c g k (6 * (k / 6) + c) = g (6 * (k / 6) + c) := by
      rw [i1]
      split
      · rw [show (6 * (k / 6) + c) / 6 = k / 6 by omega, show (6 * (k / 6) + c) % 6 = c by omega, dc]
        unfold mnI
        split <;> omega
      · rfl
    have e2 : sfT c g k (6 * c + k % 6) = g (6 * c + k % 6) := by
      rw [i2]
      split
      · rw [show (6 * c + k % 6) / 6 = c by omega, show (6 * c + k % 6) % 6 = k % 6 by omega, dc]
        unfold mnI
        split <;> omega
      · rfl
    rw [sfT_s, e1, e2, i3]
    by_cases e : x = k
    · subst e
      rw [updI_s, if_pos (by omega)]
    · rw [updI_n e, ih]
      by_cases c2 : x < k
      · rw [if_pos c2, if_pos (by omega)]
      · rw [if_neg c2, if_neg (by omega)]
theorem sfT_ab {c : Nat} (hc : c < 6) {g : Nat → Int} (hd : diag g) (hB : hB g) {a b : Nat} (ha : a < 6) (hb : b < 6) : sfT c g 36 (6 * a + b) = mnI (g (6 * a + c) + g (6 * c + b)) (g (6 * a + b)) := by
  rw [sfT_cell hc hd hB (by omega) 36 (by omega), if_pos (by omega), show (6 * a + b) / 6 = a by omega, show (6 * a + b) % 6 = b by omega]
theorem diag_c {g : Nat → Int} (hd : diag g) (h : hB g) : ∀ c, c ≤ 6 → diag (scF g c)
  | 0, _ => hd
  | c + 1, hc => by
    have ih := diag_c hd h c (by omega)
    have hb := hB_c h c (by omega)
    intro a ha
    have x1 := hb (6 * a + c) (by omega)
    have x2 := hb (6 * c + a) (by omega)
    rw [scF_s, sfT_ab (by omega) ih hb ha ha, ih a ha]
    unfold mnI
    split <;> omega
theorem pot_c {h g : Nat → Int} (hd : diag g) (hb : hB g) (hp : potG h g) : ∀ c, c ≤ 6 → potG h (scF g c)
  | 0, _ => hp
  | c + 1, hc => by
    have ih := pot_c hd hb hp c (by omega)
    intro a b ha hb2
    have x1 := ih a c ha (by omega)
    have x2 := ih c b (by omega) hb2
    have x3 := ih a b ha hb2
    rw [scF_s, sfT_ab (by omega) (diag_c hd hb c (by omega)) (hB_c hb c (by omega)) ha hb2]
    unfold mnI
    split <;> omega
theorem scF_le {g : Nat → Int} (hd : diag g) (hb : hB g) {a b : Nat} (ha : a < 6) (hb2 : b < 6) : ∀ c, c ≤ 6 → scF g c (6 * a + b) ≤ g (6 * a + b)
  | 0, _ => by simp [scF]
  | c + 1, hc => by
    have ih := scF_le hd hb ha hb2 c (by omega)
    rw [scF_s, sfT_ab (by omega) (diag_c hd hb c (by omega)) (hB_c hb c (by omega)) ha hb2]
    have := mnI_r (scF g c (6 * a + c) + scF g c (6 * c + b)) (scF g c (6 * a + b))
    omega
/-- by way of any port that was gone through -/
theorem tri_c {g : Nat → Int} (hd : diag g) (hb : hB g) : ∀ c, c ≤ 6 → ∀ m, m < c → ∀ a b, a < 6 → b < 6 → scF g c (6 * a + b) ≤ scF g c (6 * a + m) + scF g c (6 * m + b)
  | 0, _, m, hm, _, _, _, _ => by omega
  | c + 1, hc, m, hm, a, b, ha, hb2 => by
    have ih := tri_c hd hb c (by omega)
    have dg := diag_c hd hb c (by omega)
    have hB := hB_c hb c (by omega)
    have dc := dg c (by omega)
    rw [scF_s, sfT_ab (by omega) dg hB ha hb2, sfT_ab (by omega) dg hB ha (show m < 6 by omega), sfT_ab (by omega) dg hB (show m < 6 by omega) hb2]
    have n1 := hB (6 * c + m) (by omega)
    have n2 := hB (6 * m + c) (by omega)
    have l1 := mnI_l (scF g c (6 * a + c) + scF g c (6 * c + b)) (scF g c (6 * a + b))
    have l2 := mnI_r (scF g c (6 * a + c) + scF g c (6 * c + b)) (scF g c (6 * a + b))
    by_cases e : m = c
    · subst e
      rw [dc] 
      have n3 := hB (6 * a + m) (by omega)
      have n4 := hB (6 * m + b) (by omega)
      rcases mnI_c (scF g m (6 * a + m) + 0) (scF g m (6 * a + m)) with e1 | e1 <;> rcases mnI_c (0 + scF g m (6 * m + b)) (scF g m (6 * m + b)) with e2 | e2 <;> omega
    · have t1 := ih m (by omega) a b ha hb2
      have t2 := ih m (by omega) c b (by omega) hb2
      have t3 := ih m (by omega) a c ha (by omega)
      rcases mnI_c (scF g c (6 * a + c) + scF g c (6 * c + m)) (scF g c (6 * a + m)) with e1 | e1 <;> rcases mnI_c (scF g c (6 * m + c) + scF g c (6 * c + b)) (scF g c (6 * m + b)) with e2 | e2 <;> omega
/-- ways of the first k, in the table -/
theorem sw_p {t : Nat → Int} (hb : bT t) (hne : ∀ w : Nat, w < 8 → (w : Int) < t 1 → t (5 + w) ≠ t (13 + w)) {g : Nat → Int} (hB : hB g) (hd : diag g) (hs : ∀ a b, a < 6 → b < 6 → g (6 * a + b) = g (6 * b + a)) {h : Nat → Int} (hcl : clT t (sgD t) h) (hp : potG h g) : ∀ k : Nat, k ≤ 8 → (k : Int) ≤ t 1 → diag (swT t g k) ∧ (∀ a b, a < 6 → b < 6 → swT t g k (6 * a + b) = swT t g k (6 * b + a)) ∧ potG h (swT t g k) ∧ (∀ w, w < k → swT t g k (6 * (t (5 + w)).toNat + (t (13 + w)).toNat) ≤ 3 * t (21 + w) ∧ swT t g k (6 * (t (13 + w)).toNat + (t (5 + w)).toNat) ≤ 3 * t (21 + w)) ∧ (∀ x, swT t g k x ≤ g x)
  | 0, _, _ => ⟨hd, hs, hp, fun w hw => by omega, fun x => by simp [swT]⟩
  | k + 1, hk, hk2 => by
    obtain ⟨i1, i2, i3, i4, i5⟩ := sw_p hb hne hB hd hs hcl hp k (by omega) (by omega)
    have we := hb.2.2.2.2.2.2.1 k (by omega)
    have wn := hne k (by omega) (by omega)
    have cl := hcl k (by omega)
    obtain ⟨a, ha⟩ := Int.eq_ofNat_of_zero_le we.1.1
    obtain ⟨b, hb2⟩ := Int.eq_ofNat_of_zero_le we.2.1.1
    have cl1 : h (t (13 + k)).toNat ≤ h (t (5 + k)).toNat + 3 * t (21 + k) := cl.1
    have cl2 : h (t (5 + k)).toNat ≤ h (t (13 + k)).toNat + 3 * t (21 + k) := cl.2
    rw [ha, hb2, show ((a : Int)).toNat = a from rfl, show ((b : Int)).toNat = b from rfl] at cl1 cl2
    rw [swT_s, ha, hb2, show ((a : Int)).toNat = a from rfl, show ((b : Int)).toNat = b from rfl]
    have hab : a ≠ b := fun e => wn (by rw [ha, hb2, e])
    have a6 : a < 6 := by omega
    have b6 : b < 6 := by omega
    have sy := i2 a b a6 b6
    have hv1 := mnI_l (3 * t (21 + k)) (swT t g k (6 * a + b))
    have hv2 := mnI_r (3 * t (21 + k)) (swT t g k (6 * a + b))
    have hv3 := mnI_c (3 * t (21 + k)) (swT t g k (6 * a + b))
    generalize mnI (3 * t (21 + k)) (swT t g k (6 * a + b)) = v at *
    have cell : ∀ x y, x < 6 → y < 6 → updI (updI (swT t g k) (6 * a + b) v) (6 * b + a) v (6 * x + y) = if (x = a ∧ y = b) ∨ (x = b ∧ y = a) then v else swT t g k (6 * x + y) := by
      intro x y hx hy
      by_cases c : (x = a ∧ y = b) ∨ (x = b ∧ y = a)
      · rw [if_pos c]
        rcases c with ⟨rfl, rfl⟩ | ⟨rfl, rfl⟩
        · by_cases e : 6 * x + y = 6 * y + x
          · rw [e, updI_s]
          · rw [updI_n e, updI_s]
        · rw [updI_s]
      · rw [if_neg c, updI_n (by omega), updI_n (by omega)]
    have le : ∀ x, updI (updI (swT t g k) (6 * a + b) v) (6 * b + a) v x ≤ swT t g k x := by
      intro x
      by_cases c1 : x = 6 * b + a
      · subst c1; rw [updI_s]; omega
      · rw [updI_n c1]
        by_cases c2 : x = 6 * a + b
        · subst c2; rw [updI_s]; omega
        · rw [updI_n c2]; omega
    refine ⟨fun x hx => ?_, fun x y hx hy => ?_, fun x y hx hy => ?_, fun w hw => ?_, fun x => ?_⟩
    · rw [cell x x hx hx, if_neg (by omega)]; exact i1 x hx
    · rw [cell x y hx hy, cell y x hy hx]
      by_cases c : (x = a ∧ y = b) ∨ (x = b ∧ y = a)
      · rw [if_pos c, if_pos (by omega)]
      · rw [if_neg c, if_neg (by omega)]; exact i2 x y hx hy
    · rw [cell x y hx hy]
      have p1 := i3 x y hx hy
      by_cases c : (x = a ∧ y = b) ∨ (x = b ∧ y = a)
      · rw [if_pos c]
        rcases c with ⟨rfl, rfl⟩ | ⟨rfl, rfl⟩ <;> omega
      · rw [if_neg c]; exact p1
    · by_cases e : w = k
      · subst e
        rw [ha, hb2, show ((a : Int)).toNat = a from rfl, show ((b : Int)).toNat = b from rfl, cell a b a6 b6, cell b a b6 a6, if_pos (Or.inl ⟨rfl, rfl⟩), if_pos (Or.inr ⟨rfl, rfl⟩)]
        exact ⟨hv1, hv1⟩
      · have := i4 w (by omega)
        have l1 := le (6 * (t (5 + w)).toNat + (t (13 + w)).toNat)
        have l2 := le (6 * (t (13 + w)).toNat + (t (5 + w)).toNat)
        exact ⟨by omega, by omega⟩
    · have := le x
      have := i5 x
      omega
/-- the table of signals: closed, and no potential is above it -/
theorem sg_p {t : Nat → Int} (hb : bT t) (hne : ∀ w : Nat, w < 8 → (w : Int) < t 1 → t (5 + w) ≠ t (13 + w)) (g : Nat → Int) : diag (sgT t g) ∧ hB (sgT t g) ∧ (∀ a, a < 6 → clT t (sgD t) (fun b => sgT t g (6 * a + b))) ∧ (∀ h : Nat → Int, clT t (sgD t) h → (∀ b, b < 6 → 0 ≤ h b ∧ h b ≤ 1000000) → potG h (sgT t g)) := by
  have a1 := hb.2.2.1
  have d0 : diag (s0T g 36) := fun a ha => by unfold s0T; rw [if_pos (by omega), if_pos (by omega)]
  have s0 : ∀ a b, a < 6 → b < 6 → s0T g 36 (6 * a + b) = s0T g 36 (6 * b + a) := fun a b ha hb2 => by
    unfold s0T
    rw [if_pos (show 6 * a + b < 36 by omega), if_pos (show 6 * b + a < 36 by omega)]
    by_cases e : a = b
    · subst e; rfl
    · rw [if_neg (show ¬ (6 * a + b) % 7 = 0 by omega), if_neg (show ¬ (6 * b + a) % 7 = 0 by omega)]
  have p0 : ∀ h : Nat → Int, (∀ b, b < 6 → 0 ≤ h b ∧ h b ≤ 1000000) → potG h (s0T g 36) := fun h hh a b ha hb2 => by
    have := hh a ha
    have := hh b hb2
    unfold s0T
    rw [if_pos (by omega)]
    split
    · have e : a = b := by omega
      subst e; omega
    · omega
  have cz : clT t (sgD t) (fun _ => 0) := fun w hw => by
    have e : sgD t w = 3 * t (21 + w) := rfl
    have := (hb.2.2.2.2.2.2.1 w (by omega)).2.2
    show (0 : Int) ≤ 0 + 3 * t (21 + w) ∧ (0 : Int) ≤ 0 + 3 * t (21 + w)
    exact ⟨by omega, by omega⟩
  obtain ⟨k1, k2, k3, k4, k5⟩ := sw_p hb hne (hB_0 g) d0 s0 cz (p0 _ (fun b _ => by omega)) (t 1).toNat (by omega) (by omega)
  have kB := hB_w (hB_0 g) hb (t 1).toNat (by omega)
  refine ⟨diag_c k1 kB 6 (by omega), hB_sg hb, fun a ha w hw => ?_, fun h h1 h2 => ?_⟩
  · have we := hb.2.2.2.2.2.2.1 w (by omega)
    have tr := tri_c k1 kB 6 (by omega)
    have q := k4 w (by omega)
    have e : sgD t w = 3 * t (21 + w) := rfl
    have l1 := scF_le k1 kB (a := (t (5 + w)).toNat) (b := (t (13 + w)).toNat) (by omega) (by omega) 6 (by omega)
    have l2 := scF_le k1 kB (a := (t (13 + w)).toNat) (b := (t (5 + w)).toNat) (by omega) (by omega) 6 (by omega)
    have t1 := tr (t (5 + w)).toNat (by omega) a (t (13 + w)).toNat ha (by omega)
    have t2 := tr (t (13 + w)).toNat (by omega) a (t (5 + w)).toNat ha (by omega)
    show sgT t g (6 * a + (t (13 + w)).toNat) ≤ sgT t g (6 * a + (t (5 + w)).toNat) + sgD t w ∧ sgT t g (6 * a + (t (5 + w)).toNat) ≤ sgT t g (6 * a + (t (13 + w)).toNat) + sgD t w
    rw [e]
    unfold sgT
    exact ⟨by omega, by omega⟩
  · obtain ⟨-, -, k3', -, -⟩ := sw_p hb hne (hB_0 g) d0 s0 h1 (p0 h h2) (t 1).toNat (by omega) (by omega)
    exact pot_c k1 kB k3' 6 (by omega)
/-- days that begin in one port -/
theorem sg_from {t : Nat → Int} (hb : bT t) (h1 : w1T t) (hne : ∀ w : Nat, w < 8 → (w : Int) < t 1 → t (5 + w) ≠ t (13 + w)) (g : Nat → Int) {f : Nat → Int} {q : Nat} {z : Int} (hq : q < 6) (hz : 0 ≤ z ∧ z ≤ 1000000) (hf : ∀ p, p < 6 → f p = if p = q then z else 1000000) {p : Nat} (hp : p < 6) : piT t (sgD t) f 5 p = mnI (z + sgT t g (6 * q + p)) 1000000 := by
  obtain ⟨s1, s2, s3, s4⟩ := sg_p hb hne g
  have wy : wyT t (sgD t) := wy_sg hb h1
  have a1 := hb.2.2.1
  have gf : gB f := fun p hp => by rw [hf p hp]; split <;> omega
  have cl := clT_fix (piT_5 wy gf)
  have le := fun p => piT_le t (sgD t) f p 5
  have ge := gB_pi gf wy 5
  have we : ∀ w : Nat, (w : Int) < t 1 → (t (5 + w)).toNat < 6 ∧ (t (13 + w)).toNat < 6 := fun w hw => by
    have := hb.2.2.2.2.2.2.1 w (by omega); omega
  -- below
  have low := piT_g (t := t) (dl := sgD t) (g := f) (h := fun p => if p < 6 then mnI (z + sgT t g (6 * q + p)) 1000000 else f p) wy.1.1 (fun x => by
    split
    · rename_i hx
      rw [hf x hx]
      split
      · rename_i e; subst e; rw [s1 x hx]; have := mnI_l (z + 0) 1000000; omega
      · exact mnI_r _ _
    · omega) (fun w hw => by
    have c := s3 q hq w hw
    have w6 := we w hw
    have e : sgD t w = 3 * t (21 + w) := rfl
    have l := h1 w hw
    simp only at c ⊢
    rw [if_pos w6.1, if_pos w6.2, e]
    rw [e] at c
    unfold mnI
    refine ⟨?_, ?_⟩ <;> (split <;> split <;> omega)) p 5
  rw [if_pos hp] at low
  -- above
  have up := s4 (fun b => mxI (piT t (sgD t) f 5 b - z) 0) (fun w hw => by
    have c := cl w hw
    have e : sgD t w = 3 * t (21 + w) := rfl
    have l := h1 w hw
    rw [e] at c ⊢
    unfold mxI
    simp only
    refine ⟨?_, ?_⟩ <;> (split <;> split <;> omega)) (fun b hb2 => by
    have x1 := le b
    rw [hf b hb2] at x1
    have := ge b hb2
    unfold mxI
    refine ⟨?_, ?_⟩ <;> (split <;> split at x1 <;> omega)) q p hq hp
  have x1 := le q
  rw [hf q hq, if_pos rfl] at x1
  have x2 := le p
  have x3 : f p ≤ 1000000 := by rw [hf p hp]; split <;> omega
  have m1 : mxI (piT t (sgD t) f 5 q - z) 0 = 0 := by unfold mxI; rw [if_neg (by omega)]
  have m2 : piT t (sgD t) f 5 p - z ≤ mxI (piT t (sgD t) f 5 p - z) 0 := by unfold mxI; split <;> omega
  simp only at up
  rw [m1] at up
  unfold mnI at low ⊢
  split at low <;> split <;> omega
