/-! ===== fame: the starts ===== -/
theorem laI_d {T gh nw : Bool} {day p kn S : Nat} (hp : p < 6) (hk : kn ≤ 1) (hS : S < 64) : ∃ kn' S', laI T gh nw day p kn S = cd day p kn' S' ∧ kn' ≤ 1 ∧ S' < 64 ∧ kn' = (if T = true ∧ gh = false then 1 else kn) ∧ S' = (if nw = true ∧ kn = 1 ∧ T = false then S ||| 2 ^ p else S) := by
  have p64 : (2 : Nat) ^ p ≤ 32 := Nat.pow_le_pow_right (show 0 < 2 by omega) (show p ≤ 5 by omega)
  have o64 : S ||| 2 ^ p < 2 ^ 6 := Nat.or_lt_two_pow (by omega) (by omega)
  exact ⟨_, _, rfl, by split <;> omega, by split <;> omega, rfl, rfl⟩
section
variable {t : Nat → Int} {s n D W N : Nat}
theorem thB_t {F : Nat → Int} {d0 : Int} {p day : Nat} : thB F d0 p day = true ↔ F p ≤ d0 + (day : Int) := by unfold thB; exact decide_eq_true_iff
theorem thB_f {F : Nat → Int} {d0 : Int} {p day : Nat} : thB F d0 p day = false ↔ ¬ F p ≤ d0 + (day : Int) := by unfold thB; exact decide_eq_false_iff_not
/-- a property of all it can come to -/
theorem fa_ind (hw : wT t) (hs : s < 4) (hW : t 1 = (W : Int)) (P : Nat → Nat → Nat → Nat → Prop)
    (h0 : ∀ (day kn' S' : Nat), (day : Int) = bgT t s - t 3 → day ≤ D → kn' ≤ 1 → S' < 64 → kn' = (if thB (foD t (2 ^ s) n) (t 3) (t (33 + s)).toNat day = true ∧ decide (t (29 + s) = 5) = false then 1 else (t (45 + s)).toNat / 2 ^ n % 2) → S' = (if decide (0 < t (37 + s)) = true ∧ (t (45 + s)).toNat / 2 ^ n % 2 = 1 ∧ thB (foD t (2 ^ s) n) (t 3) (t (33 + s)).toNat day = false then 0 ||| 2 ^ (t (33 + s)).toNat else 0) → P day (t (33 + s)).toNat kn' S')
    (h1 : ∀ (day p kn S kn' : Nat), p < 6 → kn ≤ 1 → S < 64 → day + 1 ≤ D → P day p kn S → kn' = (if thB (foD t (2 ^ s) n) (t 3) p (day + 1) = true ∧ decide (t (29 + s) = 5) = false then 1 else kn) → P (day + 1) p kn' S)
    (h2 : ∀ (day p kn S w b kn' S' : Nat), p < 6 → kn ≤ 1 → S < 64 → w < W → (((t (5 + w)).toNat = p ∧ (t (13 + w)).toNat = b) ∨ ((t (13 + w)).toNat = p ∧ (t (5 + w)).toNat = b)) → day + (tkT t s w).toNat ≤ D → P day p kn S → S' < 64 → kn' = (if thB (foD t (2 ^ s) n) (t 3) b (day + (tkT t s w).toNat) = true ∧ decide (t (29 + s) = 5) = false then 1 else kn) → S' = (if kn = 1 ∧ thB (foD t (2 ^ s) n) (t 3) b (day + (tkT t s w).toNat) = false then S ||| 2 ^ b else S) → P (day + (tkT t s w).toNat) b kn' S')
    {i : Nat} (h : faR t s n D W i) : i / 128 % 6 < 6 ∧ i / 64 % 2 ≤ 1 ∧ i % 64 < 64 ∧ P (i / 768) (i / 128 % 6) (i / 64 % 2) (i % 64) := by
  have hb := hw.1.1
  have a1 := hb.2.2.1
  have bp := (hb.2.2.2.2.2.2.2.1 s hs).2.1
  have m6 : ∀ i : Nat, i / 128 % 6 < 6 ∧ i / 64 % 2 ≤ 1 ∧ i % 64 < 64 := fun i => by omega
  refine ⟨(m6 i).1, (m6 i).2.1, (m6 i).2.2, ?_⟩
  refine h (fun i => P (i / 768) (i / 128 % 6) (i / 64 % 2) (i % 64)) ?_ ?_
  · rintro i ⟨day, x1, x2, x3⟩
    obtain ⟨kn', S', e, k1, k2, k3, k4⟩ := laI_d (T := thB (foD t (2 ^ s) n) (t 3) (t (33 + s)).toNat day) (gh := decide (t (29 + s) = 5)) (nw := decide (0 < t (37 + s))) (day := day) (p := (t (33 + s)).toNat) (kn := (t (45 + s)).toNat / 2 ^ n % 2) (S := 0) (by omega) (by omega) (by omega)
    obtain ⟨d1, d2, d3, d4⟩ := cd_d (day := day) (p := (t (33 + s)).toNat) (by omega) k1 k2
    show P (i / 768) (i / 128 % 6) (i / 64 % 2) (i % 64)
    rw [x3, e, d1, d2, d3, d4]
    exact h0 day kn' S' x1 x2 k1 k2 k3 k4
  · rintro i j hi q
    obtain ⟨f1, f2, f3⟩ := m6 i
    rcases q with ⟨x1, x2⟩ | ⟨w, hw', to, x, y, z⟩
    · obtain ⟨kn', S', e, k1, k2, k3, k4⟩ := laI_d (T := thB (foD t (2 ^ s) n) (t 3) (i / 128 % 6) (i / 768 + 1)) (gh := decide (t (29 + s) = 5)) (nw := false) (day := i / 768 + 1) f1 f2 f3
      rw [if_neg (show ¬ (false = true ∧ _) by simp)] at k4
      obtain ⟨d1, d2, d3, d4⟩ := cd_d (day := i / 768 + 1) f1 k1 k2
      rw [x2, e, d1, d2, d3, d4, k4]
      exact h1 _ _ _ _ kn' f1 f2 f3 x1 hi k3
    · have wv := hb.2.2.2.2.2.2.1 w (by omega)
      have t6 : to < 6 := by omega
      obtain ⟨kn', S', e, k1, k2, k3, k4⟩ := laI_d (T := thB (foD t (2 ^ s) n) (t 3) to (i / 768 + (tkT t s w).toNat)) (gh := decide (t (29 + s) = 5)) (nw := true) (day := i / 768 + (tkT t s w).toNat) t6 f2 f3
      obtain ⟨d1, d2, d3, d4⟩ := cd_d (day := i / 768 + (tkT t s w).toNat) t6 k1 k2
      rw [z, e, d1, d2, d3, d4]
      refine h2 _ _ _ _ w to kn' S' f1 f2 f3 hw' ?_ y hi k2 k3 ?_
      · rcases x with ⟨x1, x2⟩ | ⟨x0, x1, x2⟩
        · exact Or.inl ⟨x1, x2.symm⟩
        · exact Or.inr ⟨x1, x2.symm⟩
      · rw [k4]
        simp only [true_and]
/-- who is where it is known, knows -/
theorem fa_i (hw : wT t) (hs : s < 4) (hW : t 1 = (W : Int)) {day p kn S : Nat} (hp : p < 6) (hk : kn ≤ 1) (hS : S < 64) (h : faR t s n D W (cd day p kn S)) (h5 : t (29 + s) ≠ 5) (hF : foD t (2 ^ s) n p ≤ t 3 + (day : Int)) : kn = 1 := by
  have g5 : decide (t (29 + s) = 5) = false := by rw [decide_eq_false_iff_not]; exact h5
  have := (fa_ind (n := n) (D := D) hw hs hW (fun day p kn S => foD t (2 ^ s) n p ≤ t 3 + (day : Int) → kn = 1) (fun day kn' S' x1 x2 x3 x4 x5 x6 y => by rw [x5, if_pos ⟨thB_t.mpr y, g5⟩]) (fun day p kn S kn' _ _ _ _ _ x y => by rw [x, if_pos ⟨thB_t.mpr y, g5⟩]) (fun day p kn S w b kn' S' _ _ _ _ _ _ _ _ x _ y => by rw [x, if_pos ⟨thB_t.mpr y, g5⟩]) h).2.2.2
  obtain ⟨d1, d2, d3, d4⟩ := cd_d (day := day) hp hk hS
  rw [d1, d2, d3] at this
  exact this hF
/-- to come to a port at all -/
theorem fa_r (hw : wT t) (hq : qT t) (hs : s < 4) (hs2 : (s : Int) < t 2) (hD : D ≤ 30) (h99 : t 3 ≤ 99) (hW : t 1 = (W : Int)) : ∀ (k p : Nat), p < 6 → (cm0 t s p).toNat = k → cm0 t s p ≤ t 3 + (D : Int) → ∃ day kn S', faR t s n D W (cd day p kn S') ∧ kn ≤ 1 ∧ S' < 64 ∧ t 3 + (day : Int) ≤ cm0 t s p := by
  have hb := hw.1.1
  have h1 : w1T t := hq.1.2.2.1
  have a1 := hb.2.2.1
  have a3 := hb.2.2.2.2.1
  have bp := (hb.2.2.2.2.2.2.2.1 s hs).2.1
  obtain ⟨c1, c2⟩ := cm_b hb h1 hs
  obtain ⟨p1, p2⟩ := cm_p hb h1 s
  have sh := (hq.2.2.1 s hs hs2).2.2.1
  have bg3 : t 3 ≤ bgT t s := by
    unfold bgT
    split <;> omega
  intro k
  induction k using Nat.strongRecOn with
  | ind k ih =>
    intro p hp hk hl
    have cp := c1 p hp
    by_cases e : cm0 t s p = lcT (t (33 + s)).toNat (bgT t s) (fun _ => 0) 6 p
    · have pb : p = (t (33 + s)).toNat := by
        unfold lcT at e
        rw [if_pos hp] at e
        split at e
        · assumption
        · exfalso; omega
      have cb : cm0 t s p = bgT t s := by rw [pb]; exact c2
      obtain ⟨kn', S', x, k1, k2, -, -⟩ := laI_d (T := thB (foD t (2 ^ s) n) (t 3) (t (33 + s)).toNat (bgT t s - t 3).toNat) (gh := decide (t (29 + s) = 5)) (nw := decide (0 < t (37 + s))) (day := (bgT t s - t 3).toNat) (p := (t (33 + s)).toNat) (kn := (t (45 + s)).toNat / 2 ^ n % 2) (S := 0) (by omega) (by omega) (by omega)
      refine ⟨(bgT t s - t 3).toNat, kn', S', ?_, k1, k2, by omega⟩
      rw [pb, ← x]
      exact Rc_z ⟨(bgT t s - t 3).toNat, by omega, by omega, rfl⟩
    · obtain ⟨w, w1, x⟩ := p2 p e
      have w8 : w < 8 := by omega
      have wv := hb.2.2.2.2.2.2.1 w w8
      have tk := tkT_b (t := t) (s := s) (w := w) wv.2.2
      have t1 := h1 w w1
      have tk1 : 1 ≤ tkT t s w := by unfold tkT; (repeat' split) <;> omega
      have go : ∀ e, e < 6 → (((t (5 + w)).toNat = e ∧ (t (13 + w)).toNat = p) ∨ ((t (13 + w)).toNat = e ∧ (t (5 + w)).toNat = p)) → cm0 t s p = cm0 t s e + tkT t s w → ∃ day kn S', faR t s n D W (cd day p kn S') ∧ kn ≤ 1 ∧ S' < 64 ∧ t 3 + (day : Int) ≤ cm0 t s p := by
        intro e e6 he ec
        have ce := c1 e e6
        obtain ⟨day, kn, S, r, k1, k2, k3⟩ := ih (cm0 t s e).toNat (by omega) e e6 rfl (by omega)
        have R := fa_sail (n := n) hq hb hW (show w < W by omega) he e6 k1 k2 (by omega) r
        obtain ⟨kn', S', x, l1, l2, -, -⟩ := laI_d (T := thB (foD t (2 ^ s) n) (t 3) p (day + (tkT t s w).toNat)) (gh := decide (t (29 + s) = 5)) (nw := true) (day := day + (tkT t s w).toNat) hp k1 k2
        rw [x] at R
        exact ⟨_, kn', S', R, l1, l2, by omega⟩
      rcases x with ⟨x1, x2⟩ | ⟨x1, x2⟩
      · exact go _ (by omega) (Or.inl ⟨rfl, x1⟩) x2
      · exact go _ (by omega) (Or.inr ⟨rfl, x1⟩) x2
theorem fa_w {day p S : Nat} (hp : p < 6) (hS : S < 64) : ∀ (j kn : Nat), kn ≤ 1 → day + j ≤ D → faR t s n D W (cd day p kn S) → ∃ kn', kn' ≤ 1 ∧ faR t s n D W (cd (day + j) p kn' S)
  | 0, kn, hk, _, h => ⟨kn, hk, h⟩
  | j + 1, kn, hk, hd, h => by
    obtain ⟨k', k1, r⟩ := fa_w hp hS j kn hk (by omega) h
    have R := fa_wait hp k1 hS (show day + j + 1 ≤ D by omega) r
    obtain ⟨kn', S', x, l1, l2, -, l4⟩ := laI_d (T := thB (foD t (2 ^ s) n) (t 3) p (day + j + 1)) (gh := decide (t (29 + s) = 5)) (nw := false) (day := day + j + 1) hp k1 hS
    rw [if_neg (show ¬ (false = true ∧ _) by simp)] at l4
    rw [x, l4] at R
    exact ⟨kn', l1, R⟩
theorem fa_0 (hw : wT t) (hq : qT t) (hs : s < 4) (hs2 : (s : Int) < t 2) (hn : n < 4) (hD : D ≤ 30) (h99 : t 3 ≤ 99) (hW : t 1 = (W : Int)) {p : Nat} (hp : (p : Int) < t 0) (hl : faK t s n p ≤ t 3 + (D : Int)) : faD t s n D W (sB (faF t s n) 0 p (faK t s n p)) p (faK t s n p) := by
  have hb := hw.1.1
  have a0 := hb.2.1
  have a3 := hb.2.2.2.2.1
  have h1 : w1T t := hq.1.2.2.1
  have bp := (hb.2.2.2.2.2.2.2.1 s hs).2.1
  obtain ⟨c1, c2⟩ := cm_b hb h1 hs
  have sh := hq.2.2.1 s hs hs2
  have bg3 : t 3 ≤ bgT t s := by
    have := sh.2.2.1
    unfold bgT
    split <;> omega
  have p6 : p < 6 := by omega
  have fp := foD_p hw hq (2 ^ s) hn
  unfold faK knC at hl ⊢
  by_cases k5 : t (29 + s) = 5
  · rw [if_pos k5] at hl; omega
  · rw [if_neg k5] at hl ⊢
    by_cases kb : bit (t (45 + s)) n
    · rw [if_pos kb] at hl ⊢
      by_cases pb : p = (t (33 + s)).toNat
      · rw [if_pos pb] at hl ⊢
        have cb : cm0 t s p = bgT t s := by rw [pb]; exact c2
        rw [cb] at hl ⊢
        obtain ⟨kn', S', x, k1, k2, k3, k4⟩ := laI_d (T := thB (foD t (2 ^ s) n) (t 3) (t (33 + s)).toNat (bgT t s - t 3).toNat) (gh := decide (t (29 + s) = 5)) (nw := decide (0 < t (37 + s))) (day := (bgT t s - t 3).toNat) (p := (t (33 + s)).toNat) (kn := (t (45 + s)).toNat / 2 ^ n % 2) (S := 0) (by omega) (by omega) (by omega)
        have kn1 : kn' = 1 := by rw [k3, kb]; split <;> rfl
        subst kn1
        refine ⟨(bgT t s - t 3).toNat, S', ?_, k2, by omega, ?_⟩
        · rw [pb, ← x]
          exact Rc_z ⟨(bgT t s - t 3).toNat, by omega, by omega, rfl⟩
        · unfold sB
          split
          · rename_i c
            have cF := (fa_v (s := s) hw hq hn p6 (by omega)).mp c
            have due : 0 < t (37 + s) := by
              have := sh.2.2.1
              by_cases z : t (37 + s) = 0
              · exfalso
                have kk := sh.2.2.2.2.1 z n hn kb
                rw [← pb] at kk
                have e := (fp.2.2.2.2 p p6).1 kk
                have kl := hb.2.2.2.2.2.2.2.2.2 (61 + 4 * p + n) (by omega)
                unfold kw at e
                omega
              · omega
            rw [k4, if_pos ⟨by rw [decide_eq_true_iff]; exact due, kb, by rw [← pb]; exact thB_f.mpr (by omega)⟩, ← pb]
            exact Nat.or_self _
          · exact Nat.zero_or _
      · rw [if_neg pb] at hl; omega
    · rw [if_neg kb, if_pos hp] at hl ⊢
      have cp := c1 p p6
      have d0 := fp.1 p p6
      have vF : ∀ v : Int, v ≤ 150 → (v < faF t s n p ↔ v < foD t (2 ^ s) n p) := fun v hv => fa_v hw hq hn p6 hv
      generalize hv : (if cm0 t s p < faF t s n p then faF t s n p else cm0 t s p) = v at *
      have v1 : cm0 t s p ≤ v ∧ faF t s n p ≤ v := by rw [← hv]; split <;> omega
      have v2 := vF v (by omega)
      obtain ⟨day, kn, S, r, k1, k2, k3⟩ := fa_r (n := n) hw hq hs hs2 hD h99 hW _ p p6 rfl (by omega)
      obtain ⟨kn', l1, R⟩ := fa_w p6 k2 ((v - t 3).toNat - day) kn k1 (by omega) r
      have kn1 := fa_i hw hs hW p6 l1 k2 R k5 (by omega)
      subst kn1
      refine ⟨_, S, R, k2, by omega, ?_⟩
      unfold sB
      rw [if_neg (by omega)]
      exact Nat.zero_or _
end
