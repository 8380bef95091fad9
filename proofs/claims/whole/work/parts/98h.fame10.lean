/-! ===== fame: both ===== -/
section
variable {t : Nat → Int} {s n D W N : Nat}
theorem fa_b (hw : wT t) (hq : qT t) (hs : s < 4) (hs2 : (s : Int) < t 2) (hn : n < 4) (hD : D ≤ 30) (h99 : t 3 ≤ 99) (hW : t 1 = (W : Int)) (hN : t 0 = (N : Int)) {Dm : Nat → Nat → Int → Prop} {h : Nat → Int} (hV : Vl Dm N (t 3 + (D : Int)) h) (hst : ∀ p, p < N → faK t s n p ≤ t 3 + (D : Int) → h (6 * sB (faF t s n) 0 p (faK t s n p) + p) ≤ faK t s n p) (hcl : ∀ S, S < 2 ^ N → ∀ e, e < 6 → ∀ b c, QW t s W e b c → edg (faF t s n) (t 3 + (D : Int)) h S e b c) {i : Nat} (hi : faR t s n D W i) : (i / 768 ≤ D ∧ i / 128 % 6 < N) ∧ ((i / 64 % 2 = 1 → ∃ S'', S'' < 64 ∧ (i % 64) ||| S'' = S'' ∧ h (6 * S'' + i / 128 % 6) ≤ t 3 + ((i / 768 : Nat) : Int)) ∧ (i / 64 % 2 = 0 → i % 64 = 0)) := by
  have hb := hw.1.1
  have a0 := hb.2.1
  have a1 := hb.2.2.1
  have a3 := hb.2.2.2.2.1
  have h1 : w1T t := hq.1.2.2.1
  have wy := wyN_q hw hq
  have bp := (hb.2.2.2.2.2.2.2.1 s hs).2.1
  obtain ⟨c1, c2⟩ := cm_b hb h1 hs
  obtain ⟨p1, -⟩ := cm_p hb h1 s
  have sh := hq.2.2.1 s hs hs2
  have p64 : (2 : Nat) ^ N ≤ 64 := Nat.pow_le_pow_right (show 0 < 2 by omega) (show N ≤ 6 by omega)
  have b0 : ∀ p, p < N → ∀ v, sB (faF t s n) 0 p v < 64 := fun p hp v => by
    have := sB_lt (f := faF t s n) (S := 0) (v := v) (Nat.two_pow_pos N) hp
    omega
  -- who learns it where it is
  have lrn : ∀ p day : Nat, p < N → day ≤ D → ¬ bit (t (45 + s)) n → t (29 + s) ≠ 5 → cm0 t s p ≤ t 3 + (day : Int) → foD t (2 ^ s) n p ≤ t 3 + (day : Int) → ∃ S'', S'' < 64 ∧ 0 ||| S'' = S'' ∧ h (6 * S'' + p) ≤ t 3 + (day : Int) := by
    intro p day hp hd kb k5 hc hf
    have fK : faK t s n p ≤ t 3 + (day : Int) := by
      have v := fa_v (s := s) hw hq hn (show p < 6 by omega) (v := t 3 + (day : Int)) (by omega)
      unfold faK knC
      rw [if_neg k5, if_neg kb, if_pos (by omega)]
      split <;> omega
    have := hst p hp (by omega)
    exact ⟨sB (faF t s n) 0 p (faK t s n p), b0 p hp _, Nat.zero_or _, by omega⟩
  have res := fa_ind (n := n) (D := D) hw hs hW (fun day p kn S => (day ≤ D ∧ p < N) ∧ (kn = 1 → ∃ S'', S'' < 64 ∧ S ||| S'' = S'' ∧ h (6 * S'' + p) ≤ t 3 + (day : Int)) ∧ (kn = 0 → S = 0 ∧ cm0 t s p ≤ t 3 + (day : Int) ∧ ¬ bit (t (45 + s)) n)) ?_ ?_ ?_ hi
  · exact ⟨res.2.2.2.1, res.2.2.2.2.1, fun x => (res.2.2.2.2.2 x).1⟩
  · intro day kn' S' x1 x2 x3 x4 x5 x6
    have bN : (t (33 + s)).toNat < N := by have := sh.2.1; omega
    have cb : cm0 t s (t (33 + s)).toNat = t 3 + (day : Int) := by rw [c2]; omega
    refine ⟨⟨x2, bN⟩, fun y => ?_, fun y => ?_⟩
    · by_cases kb : bit (t (45 + s)) n
      · have k5 : t (29 + s) ≠ 5 := fun z => by
          have z2 := sh.2.2.2.1 z
          unfold bit at kb
          rw [z2] at kb
          simp at kb
        have fK : faK t s n (t (33 + s)).toNat = t 3 + (day : Int) := by
          unfold faK knC
          rw [if_neg k5, if_pos kb, if_pos rfl, cb]
        have st := hst _ bN (by omega)
        rw [fK] at st
        refine ⟨_, b0 _ bN _, ?_, st⟩
        rw [x6]
        split
        · rename_i c
          have cf := thB_f.mp c.2.2
          unfold sB
          rw [if_pos ((fa_v (s := s) hw hq hn (by omega) (by omega)).mpr (by omega))]
          exact Nat.or_self _
        · exact Nat.zero_or _
      · have z : ¬ ((t (45 + s)).toNat / 2 ^ n % 2 = 1) := kb
        rw [if_neg (fun c => z c.2.1)] at x6
        rw [x6]
        by_cases c : thB (foD t (2 ^ s) n) (t 3) (t (33 + s)).toNat day = true ∧ decide (t (29 + s) = 5) = false
        · exact lrn _ day bN x2 kb (decide_eq_false_iff_not.mp c.2) (by omega) (thB_t.mp c.1)
        · rw [if_neg c] at x5; omega
    · have kb : ¬ bit (t (45 + s)) n := fun z => by
        unfold bit at z
        rw [z] at x5
        split at x5 <;> omega
      refine ⟨?_, by omega, kb⟩
      rw [x6, if_neg (fun c => kb c.2.1)]
  · intro day p kn S kn' q1 q2 q3 q4 ⟨⟨i1, i2⟩, i3, i4⟩ x
    refine ⟨⟨q4, i2⟩, fun y => ?_, fun y => ?_⟩
    · by_cases k1 : kn = 1
      · obtain ⟨S'', y1, y2, y3⟩ := i3 k1
        exact ⟨S'', y1, y2, by omega⟩
      · obtain ⟨z1, z2, z3⟩ := i4 (by omega)
        by_cases c : thB (foD t (2 ^ s) n) (t 3) p (day + 1) = true ∧ decide (t (29 + s) = 5) = false
        · rw [z1]; exact lrn p (day + 1) i2 q4 z3 (decide_eq_false_iff_not.mp c.2) (by omega) (thB_t.mp c.1)
        · rw [if_neg c] at x; omega
    · have k0 : kn = 0 := by
        split at x <;> omega
      obtain ⟨z1, z2, z3⟩ := i4 k0
      exact ⟨z1, by omega, z3⟩
  · intro day p kn S w b kn' S' q1 q2 q3 q4 q5 q6 ⟨⟨i1, i2⟩, i3, i4⟩ x0 x y
    have wv := wy w (by omega) (by omega)
    have tk := tkT_b (t := t) (s := s) (w := w) (hb.2.2.2.2.2.2.1 w (by omega)).2.2
    have bN : b < N := by clear i3 i4 x y; omega
    have ec : ((day + (tkT t s w).toNat : Nat) : Int) = (day : Int) + tkT t s w := by clear i3 i4 x y; omega
    have qw : QW t s W p b (tkT t s w) := ⟨w, q4, q5, rfl⟩
    have cl : cm0 t s b ≤ cm0 t s p + tkT t s w := by
      have := p1 w (by omega)
      rcases q5 with ⟨u1, u2⟩ | ⟨u1, u2⟩
      · rw [← u1, ← u2]; exact this.1
      · rw [← u1, ← u2]; exact this.2
    refine ⟨⟨q6, bN⟩, fun z => ?_, fun z => ?_⟩
    · by_cases k1 : kn = 1
      · obtain ⟨S'', y1, y2, y3⟩ := i3 k1
        have SN : S'' < 2 ^ N := by
          rcases hV S'' p y1 q1 with u | ⟨-, -, u, -⟩
          · omega
          · exact u
        have ed := hcl S'' SN p q1 b _ qw (by omega)
        have s64 := sB_lt (f := faF t s n) (v := h (6 * S'' + p) + tkT t s w) SN bN
        refine ⟨_, by omega, ?_, by rw [ec]; omega⟩
        rw [y]
        split
        · rename_i c
          have cf := thB_f.mp c.2
          unfold sB
          rw [if_pos ((fa_v (s := s) hw hq hn (by omega) (by omega)).mpr (by omega))]
          exact or_u y2
        · unfold sB
          split
          · exact or_v y2
          · exact y2
      · obtain ⟨z1, z2, z3⟩ := i4 (by omega)
        rw [if_neg (fun c => k1 c.1), z1] at y
        rw [y]
        by_cases c : thB (foD t (2 ^ s) n) (t 3) b (day + (tkT t s w).toNat) = true ∧ decide (t (29 + s) = 5) = false
        · exact lrn b _ bN q6 z3 (decide_eq_false_iff_not.mp c.2) (by omega) (thB_t.mp c.1)
        · rw [if_neg c] at x; omega
    · have k0 : kn = 0 := by
        split at x <;> omega
      obtain ⟨z1, z2, z3⟩ := i4 k0
      refine ⟨?_, by omega, z3⟩
      rw [y, if_neg (fun c => by omega), z1]
theorem bc_0 : bcF 64 0 = 0 := rfl
theorem fa_eq (hw : wT t) (hq : qT t) (hs : s < 4) (hs2 : (s : Int) < t 2) (hn : n < 4) (hD : D ≤ 30) (h99 : t 3 ≤ 99) (hW : t 1 = (W : Int)) (hN : t 0 = (N : Int)) {h : Nat → Int} (hV : Vl (faD t s n D W) N (t 3 + (D : Int)) h) (hst : ∀ p, p < N → faK t s n p ≤ t 3 + (D : Int) → h (6 * sB (faF t s n) 0 p (faK t s n p) + p) ≤ faK t s n p) (hcl : ∀ S, S < 2 ^ N → ∀ e, e < 6 → ∀ b c, QW t s W e b c → edg (faF t s n) (t 3 + (D : Int)) h S e b c) {M' D' M Df : Int} (hJ : bJ h (t 3 + (D : Int)) (t 3) (fun S p => S < 2 ^ N ∧ p < N) M' D') (hR : bR (faR t s n D W) M Df) : M' = M ∧ D' = Df := by
  have hb := hw.1.1
  have a0 := hb.2.1
  have p64 : (2 : Nat) ^ N ≤ 64 := Nat.pow_le_pow_right (show 0 < 2 by omega) (show N ≤ 6 by omega)
  -- from the table to the reference
  have A : ∀ S p, S < 2 ^ N ∧ p < N → h (6 * S + p) ≤ t 3 + (D : Int) → 0 < bcF 64 S → (bcF 64 S : Int) < M ∨ ((bcF 64 S : Int) = M ∧ Df ≤ h (6 * S + p) - t 3) := by
    intro S p hP hl hpos
    rcases hV S p (by omega) (by omega) with u | ⟨-, ⟨day, S', r, u1, u2, u3⟩, -⟩
    · omega
    · have m := bc_m S (by omega) S' u1 u3
      obtain ⟨d1, d2, d3, d4⟩ := cd_d (day := day) (p := p) (kn := 1) (by omega) (by omega) u1
      have := hR.2 _ r
      rw [d1, d4] at this
      omega
  -- and back
  have B : ∀ i, faR t s n D W i → 0 < bcF 64 (i % 64) → (bcF 64 (i % 64) : Int) < M' ∨ ((bcF 64 (i % 64) : Int) = M' ∧ D' ≤ ((i / 768 : Nat) : Int)) := by
    intro i hi hpos
    obtain ⟨⟨x1, x2⟩, x3, x4⟩ := fa_b hw hq hs hs2 hn hD h99 hW hN hV hst hcl hi
    by_cases k1 : i / 64 % 2 = 1
    · obtain ⟨S'', y1, y2, y3⟩ := x3 k1
      have SN : S'' < 2 ^ N := by
        rcases hV S'' (i / 128 % 6) y1 (by omega) with u | ⟨-, -, u, -⟩
        · omega
        · exact u
      have m := bc_m (i % 64) (by omega) S'' y1 y2
      have := hJ.2 S'' (i / 128 % 6) ⟨SN, x2⟩ (by omega) (by omega)
      omega
    · have z := x4 (by omega)
      rw [z, bc_0] at hpos
      omega
  rcases hJ.1 with ⟨j1, j2⟩ | ⟨S, p, j1, j2, j3, j4, j5⟩
  · rcases hR.1 with ⟨r1, r2⟩ | ⟨i, r1, r2, r3, r4⟩
    · omega
    · have := B i r1 r2
      omega
  · have a := A S p j1 j2 j3
    rcases hR.1 with ⟨r1, r2⟩ | ⟨i, r1, r2, r3, r4⟩
    · omega
    · have b := B i r1 r2
      omega
end
