/-! ===== fame: the table and the reference agree ===== -/
theorem cm_p {t : Nat → Int} (hb : bT t) (h1 : w1T t) (s : Nat) : clT t (tkT t s) (cm0 t s) ∧ ∀ v, cm0 t s v ≠ lcT (t (33 + s)).toNat (bgT t s) (fun _ => 0) 6 v → ∃ w : Nat, (w : Int) < t 1 ∧ (((t (13 + w)).toNat = v ∧ cm0 t s v = cm0 t s (t (5 + w)).toNat + tkT t s w) ∨ ((t (5 + w)).toNat = v ∧ cm0 t s v = cm0 t s (t (13 + w)).toNat + tkT t s w)) := by
  have wy := wy_tk hb h1 s
  have bg := bgT_b hb s
  have gf : gB (lcT (t (33 + s)).toNat (bgT t s) (fun _ => 0) 6) := by
    intro p hp
    unfold lcT
    rw [if_pos hp]
    split <;> omega
  have fx := piT_5 wy gf
  have cl := clT_fix fx
  have le := fun p => piT_le t (tkT t s) (lcT (t (33 + s)).toNat (bgT t s) (fun _ => 0) 6) p 5
  have gr : ∀ h, clT t (tkT t s) h → (∀ p, h p ≤ lcT (t (33 + s)).toNat (bgT t s) (fun _ => 0) 6 p) → ∀ p, h p ≤ piT t (tkT t s) (lcT (t (33 + s)).toNat (bgT t s) (fun _ => 0) 6) 5 p := fun h x1 x2 p => piT_g wy.1.1 x2 x1 p 5
  exact ⟨cl, fun v hv => tight wy cl le gr v hv⟩
theorem bc_m : ∀ S, S < 64 → ∀ S', S' < 64 → S ||| S' = S' → bcF 64 S ≤ bcF 64 S' := by decide +kernel
theorem or_u {S S' x : Nat} (h : S ||| S' = S') : (S ||| x) ||| (S' ||| x) = S' ||| x := by
  rw [show (S ||| x) ||| (S' ||| x) = (S ||| S') ||| x by
    apply Nat.eq_of_testBit_eq; intro i; simp only [Nat.testBit_or]; cases S.testBit i <;> cases S'.testBit i <;> cases x.testBit i <;> rfl, h]
theorem or_v {S S' x : Nat} (h : S ||| S' = S') : S ||| (S' ||| x) = S' ||| x := by rw [← Nat.or_assoc, h]
theorem or_r (S : Nat) : S ||| S = S := Nat.or_self S
theorem or_t {S S' S'' : Nat} (h : S ||| S' = S') (h2 : S' ||| S'' = S'') : S ||| S'' = S'' := by rw [← h2, ← Nat.or_assoc, h]
/-- a place's number -/
abbrev cd (day p kn S : Nat) : Nat := 768 * day + 128 * p + 64 * kn + S
theorem cd_d {day p kn S : Nat} (hp : p < 6) (hk : kn ≤ 1) (hS : S < 64) : cd day p kn S / 768 = day ∧ cd day p kn S / 128 % 6 = p ∧ cd day p kn S / 64 % 2 = kn ∧ cd day p kn S % 64 = S := by
  unfold cd
  refine ⟨by omega, by omega, by omega, by omega⟩
section
variable (t : Nat → Int) (s n D W : Nat)
abbrev faR : Nat → Prop := Rc (stA t (foD t (2 ^ s) n) s n D) (suQ t (foD t (2 ^ s) n) s D W)
/-- it can come to p so early, having been first to no less -/
def faD (S p : Nat) (v : Int) : Prop := ∃ day S', faR t s n D W (cd day p 1 S') ∧ S' < 64 ∧ t 3 + (day : Int) ≤ v ∧ S ||| S' = S'
end
section
variable {t : Nat → Int} {s n D W N : Nat}
/-- to sail on -/
theorem fa_sail (hq : qT t) (hb : bT t) (hW : t 1 = (W : Int)) {day e b kn S w : Nat} (hw : w < W) (he : ((t (5 + w)).toNat = e ∧ (t (13 + w)).toNat = b) ∨ ((t (13 + w)).toNat = e ∧ (t (5 + w)).toNat = b)) (h6 : e < 6) (hk : kn ≤ 1) (hS : S < 64) (hd : day + (tkT t s w).toNat ≤ D) (h : faR t s n D W (cd day e kn S)) : faR t s n D W (laI (thB (foD t (2 ^ s) n) (t 3) b (day + (tkT t s w).toNat)) (decide (t (29 + s) = 5)) true (day + (tkT t s w).toNat) b kn S) := by
  obtain ⟨d1, d2, d3, d4⟩ := cd_d (day := day) h6 hk hS
  have a1 := hb.2.2.1
  have nn := hq.1.2.2.2.1 w (by omega) (by omega)
  have wv := hb.2.2.2.2.2.2.1 w (by omega)
  refine Rc_s h (Or.inr ⟨w, hw, b, ?_, ?_, ?_⟩)
  · rw [d2]
    rcases he with ⟨x, y⟩ | ⟨x, y⟩
    · exact Or.inl ⟨x, y.symm⟩
    · exact Or.inr ⟨by omega, x, y.symm⟩
  · rw [d1]; exact hd
  · rw [d1, d3, d4]
theorem fa_wait {day p kn S : Nat} (h6 : p < 6) (hk : kn ≤ 1) (hS : S < 64) (hd : day + 1 ≤ D) (h : faR t s n D W (cd day p kn S)) : faR t s n D W (laI (thB (foD t (2 ^ s) n) (t 3) p (day + 1)) (decide (t (29 + s) = 5)) false (day + 1) p kn S) := by
  obtain ⟨d1, d2, d3, d4⟩ := cd_d (day := day) h6 hk hS
  refine Rc_s h (Or.inl ⟨?_, ?_⟩)
  · rw [d1]; exact hd
  · rw [d1, d2, d3, d4]
theorem fa_v (hw : wT t) (hq : qT t) (hn : n < 4) {p : Nat} (hp : p < 6) {v : Int} (hv : v ≤ 150) : (v < faF t s n p ↔ v < foD t (2 ^ s) n p) := by
  have d0 := (foD_p hw hq (2 ^ s) hn).1 p hp
  unfold faF foV
  split <;> omega
theorem fa_s (hw : wT t) (hq : qT t) (hn : n < 4) (hD : D ≤ 30) (h99 : t 3 ≤ 99) (hW : t 1 = (W : Int)) {S e b : Nat} {c v : Int} (q : QW t s W e b c) (h : faD t s n D W S e v) (hl : v + c ≤ t 3 + (D : Int)) : faD t s n D W (sB (faF t s n) S b (v + c)) b (v + c) := by
  have hb := hw.1.1
  have a1 := hb.2.2.1
  obtain ⟨w, hw', he, hc⟩ := q
  obtain ⟨day, S', r, h64, hv, hs⟩ := h
  have wv := hb.2.2.2.2.2.2.1 w (by omega)
  have tk := tkT_b (t := t) (s := s) (w := w) wv.2.2
  have e6 : e < 6 := by omega
  have b6 : b < 6 := by omega
  have R := fa_sail (n := n) hq hb hW hw' he e6 (Nat.le_refl 1) h64 (by omega) r
  have ec : ((day + (tkT t s w).toNat : Nat) : Int) = (day : Int) + c := by omega
  have p64 : (2 : Nat) ^ b ≤ 32 := Nat.pow_le_pow_right (show 0 < 2 by omega) (show b ≤ 5 by omega)
  have o64 : S' ||| 2 ^ b < 2 ^ 6 := Nat.or_lt_two_pow (by omega) (by omega)
  unfold laI at R
  by_cases cT : foD t (2 ^ s) n b ≤ t 3 + ((day + (tkT t s w).toNat : Nat) : Int)
  · have eT : thB (foD t (2 ^ s) n) (t 3) b (day + (tkT t s w).toNat) = true := by unfold thB; rw [decide_eq_true_iff]; exact cT
    rw [eT, if_neg (show ¬ (true = true ∧ 1 = 1 ∧ true = false) by simp)] at R
    have x1 : (if true = true ∧ decide (t (29 + s) = 5) = false then 1 else 1) = 1 := by split <;> rfl
    rw [x1] at R
    refine ⟨day + (tkT t s w).toNat, S', R, h64, by omega, ?_⟩
    unfold sB
    rw [if_neg (fun x => by have := (fa_v (s := s) hw hq hn b6 (by omega)).mp x; omega)]
    exact hs
  · have eT : thB (foD t (2 ^ s) n) (t 3) b (day + (tkT t s w).toNat) = false := by unfold thB; rw [decide_eq_false_iff_not]; exact cT
    rw [eT, if_pos (show true = true ∧ 1 = 1 ∧ false = false by simp)] at R
    have x1 : (if false = true ∧ decide (t (29 + s) = 5) = false then 1 else 1) = 1 := by split <;> rfl
    rw [x1] at R
    refine ⟨day + (tkT t s w).toNat, S' ||| 2 ^ b, R, by omega, by omega, ?_⟩
    unfold sB
    split
    · exact or_u hs
    · exact or_v hs
end
