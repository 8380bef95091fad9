/-! ===== what holds between calls ===== -/
def gRow (E : Nat → Nat → Int) : Prop := (∀ r, r < 8 → (0 ≤ E 379 r ∧ E 379 r ≤ 2) ∧ ((E 380 r = -1 ∧ E 2 r = -1) ∨ ((0 ≤ E 380 r ∧ E 380 r ≤ 40) ∧ E 3 r = E 380 r ∧ E 2 r = E 379 r)) ∧ ∀ k, k < 40 → E (5 + r) k = E 381 (40 * r + k)) ∧ ∀ i, i32 (E 381 i)
def gTap (E : Nat → Nat → Int) : Prop := ∃ N : Nat, N ≤ 120 ∧ E 378 5 = (N : Int) ∧ E 13 1 = (N : Int) ∧ E 14 = E 382 ∧ byR (E 382)
def gFlt (E : Nat → Nat → Int) : Prop := E 0 10 = E 378 6 ∧ E 0 11 = E 378 3
def gLg (E : Nat → Nat → Int) : Prop := lgR E 28 (E 383) ∧ ((E 378 7 = 0 ∧ E 383 = fun _ => 0) ∨ (E 378 7 = 1 ∧ oT (E 383)))
def gAct (E : Nat → Nat → Int) : Prop := ∃ n x : Nat, E 378 9 = (n : Int) ∧ acR E n x (E 384) ∧ (0 < n → E 378 7 = 1)
def gImg (E : Nat → Nat → Int) : Prop := ∀ k, k < 2 → (E 386 k = 0 ∧ E (331 + 12 * k) 0 = 0) ∨ (E 386 k = 1 ∧ E 378 7 = 1 ∧ lgR E (331 + 12 * k) (lrT (E 385) (85 * k)) ∧ oT (lrT (E 385) (85 * k)))
def gTrc (E : Nat → Nat → Int) : Prop := ∃ n : Nat, n ≤ 16 ∧ E 376 1 = (n : Int) ∧ E 378 13 = (n : Int) ∧ ∀ i, i < n → E 377 i = E 387 i
def gScr (E : Nat → Nat → Int) : Prop := z85 (E 388) ∧ z85 (E 389)
def GG (E : Nat → Nat → Int) : Prop := gRow E ∧ gTap E ∧ gFlt E ∧ gLg E ∧ gAct E ∧ gImg E ∧ gTrc E ∧ gScr E
section
variable {E E' : Nat → Nat → Int}
theorem gRow_c (h : gRow E) (hf : ∀ b, ((2 ≤ b ∧ b ≤ 12) ∨ (379 ≤ b ∧ b ≤ 381)) → E' b = E b) : gRow E' := by
  refine ⟨fun r hr => ?_, ?_⟩
  · rw [hf 379 (by omega), hf 380 (by omega), hf 2 (by omega), hf 3 (by omega), hf 381 (by omega), hf (5 + r) (by omega)]; exact h.1 r hr
  · rw [hf 381 (by omega)]; exact h.2
theorem gTap_c (h : gTap E) (h1 : E' 378 5 = E 378 5) (h2 : E' 13 1 = E 13 1) (h3 : E' 14 = E 14) (h4 : E' 382 = E 382) : gTap E' := by
  unfold gTap at h ⊢
  rw [h1, h2, h3, h4]; exact h
theorem gFlt_c (h : gFlt E) (h1 : E' 0 = E 0) (h2 : E' 378 6 = E 378 6) (h3 : E' 378 3 = E 378 3) : gFlt E' := by
  unfold gFlt at h ⊢
  rw [h1, h2, h3]; exact h
theorem gLg_c (h : gLg E) (h1 : ∀ b, 28 ≤ b → b ≤ 39 → E' b = E b) (h2 : E' 383 = E 383) (h3 : E' 378 7 = E 378 7) : gLg E' := by
  unfold gLg at h ⊢
  rw [h2, h3]; exact ⟨lgR_fr h.1 (fun b x y => h1 b x (by omega)), h.2⟩
theorem gAct_c (h : gAct E) (h1 : ∀ b, 40 ≤ b → b ≤ 329 → E' b = E b) (h2 : E' 384 = E 384) (h3 : E' 378 9 = E 378 9) (h4 : E' 378 7 = E 378 7) : gAct E' := by
  obtain ⟨n, x, a1, a2, a3⟩ := h
  exact ⟨n, x, by rw [h3]; exact a1, by rw [h2]; exact acR_fr a2 h1, by rw [h4]; exact a3⟩
theorem gImg_c (h : gImg E) (h1 : ∀ b, 330 ≤ b → b ≤ 354 → E' b = E b) (h2 : E' 385 = E 385) (h3 : E' 386 = E 386) (h4 : E' 378 7 = E 378 7) : gImg E' := by
  intro k hk
  rw [h2, h3, h4, h1 (331 + 12 * k) (by omega) (by omega)]
  rcases h k hk with x | ⟨x, w, y, z⟩
  · exact Or.inl x
  · exact Or.inr ⟨x, w, lgR_fr y (fun b p q => h1 b (by omega) (by omega)), z⟩
theorem gTrc_c (h : gTrc E) (h1 : E' 376 1 = E 376 1) (h2 : E' 377 = E 377) (h3 : E' 378 13 = E 378 13) (h4 : E' 387 = E 387) : gTrc E' := by
  unfold gTrc at h ⊢
  rw [h1, h2, h3, h4]; exact h
theorem gScr_c (h : gScr E) (h1 : E' 388 = E 388) (h2 : E' 389 = E 389) : gScr E' := by
  unfold gScr at h ⊢
  rw [h1, h2]; exact h
end
theorem bT_z {t : Nat → Int} (h : ∀ i, t i = 0) : bT t := by
  refine ⟨fun i => by have := h i; omega, by have := h 0; omega, by have := h 1; omega, by have := h 2; omega, by have := h 3; omega, by have := h 4; omega, fun w _ => ?_, fun s _ => ?_, fun n _ => ?_, fun i _ => ?_⟩
  · have := h (5 + w); have := h (13 + w); have := h (21 + w); refine ⟨by omega, by omega, by omega⟩
  · have := h (29 + s); have := h (33 + s); have := h (37 + s); have := h (45 + s); refine ⟨by omega, by omega, by omega, by omega⟩
  · have := h (53 + n); have := h 3; omega
  · have := h i; have := h 3; omega
theorem wT_z {t : Nat → Int} (h : ∀ i, t i = 0) : wT t := ⟨⟨bT_z h, fun s hs => by have := h (41 + s); have := h 3; rw [if_neg (by omega)]; omega⟩, fun i _ => h i⟩
theorem gLg_w {E : Nat → Nat → Int} (h : gLg E) : wT (E 383) ∧ E 383 3 ≤ 99 ∧ w1T (E 383) ∧ (0 ≤ E 378 7 ∧ E 378 7 ≤ 1) ∧ (0 < E 383 0 → oT (E 383)) ∧ (E 378 7 = 0 ↔ E 383 0 = 0) := by
  rcases h.2 with ⟨a, b⟩ | ⟨a, b⟩
  · have z : ∀ i, E 383 i = 0 := fun i => by rw [b]
    have z3 := z 3
    have z0 := z 0
    have z1 := z 1
    exact ⟨wT_z z, by omega, fun w hw => by omega, by omega, fun h => by omega, ⟨fun _ => z0, fun _ => a⟩⟩
  · have := b.2.2.2.2.2.2.2
    exact ⟨b.1, b.2.1, b.2.2.1.2.2.1, by omega, fun _ => b, ⟨fun h => by omega, fun h => by omega⟩⟩
/-- what was read is a league -/
theorem oT_rd {t : Nat → Int} (h : rdI t) : oT t := by
  obtain ⟨q0, q1, q2, q3, q4, qw, qs, qz, qk, qh⟩ := h
  have hC : tC t := by
    intro i
    by_cases c0 : i = 0
    · subst c0; omega
    by_cases c1 : i = 1
    · subst c1; omega
    by_cases c2 : i = 2
    · subst c2; omega
    by_cases c3 : i = 3
    · subst c3; omega
    by_cases c4 : i = 4
    · subst c4; omega
    by_cases c5 : i < 29
    · have hw : ∃ w, w < 8 ∧ (i = 5 + w ∨ i = 13 + w ∨ i = 21 + w) := ⟨(i - 5) % 8, by omega, by omega⟩
      obtain ⟨w, w8, hi⟩ := hw
      have := qw w w8
      by_cases c : (w : Int) < t 1
      · have x := this.1 c
        rcases hi with rfl | rfl | rfl <;> omega
      · have x := this.2 (by omega)
        rcases hi with rfl | rfl | rfl <;> omega
    by_cases c6 : i < 37
    · have hs : ∃ s, s < 4 ∧ (i = 29 + s ∨ i = 33 + s) := ⟨(i - 29) % 4, by omega, by omega⟩
      obtain ⟨s, s4, hi⟩ := hs
      have := qs s s4
      by_cases c : (s : Int) < t 2
      · have x := this.1 c
        rcases hi with rfl | rfl <;> omega
      · have x := this.2 (by omega)
        rcases hi with rfl | rfl <;> omega
    by_cases c7 : i < 61
    · have := qz i (by omega) c7; omega
    by_cases c8 : i < 85
    · have := qk i (by omega) c8; omega
    · have := qh i (by omega); omega
  have hb : bT t := by
    refine ⟨hC, by omega, q1, q2, by omega, by omega, fun w hw => ?_, fun s hs => ?_, fun n hn => ?_, fun i hi => ?_⟩
    · have := qw w hw
      by_cases c : (w : Int) < t 1
      · have x := this.1 c; refine ⟨by omega, by omega, by omega⟩
      · have x := this.2 (by omega); refine ⟨by omega, by omega, by omega⟩
    · have := qs s hs
      have z1 := qz (37 + s) (by omega) (by omega)
      have z2 := qz (45 + s) (by omega) (by omega)
      by_cases c : (s : Int) < t 2
      · have x := this.1 c; refine ⟨by omega, by omega, by omega, by omega⟩
      · have x := this.2 (by omega); refine ⟨by omega, by omega, by omega, by omega⟩
    · have := qz (53 + n) (by omega) (by omega); omega
    · by_cases c8 : i < 85
      · have := qk i (by omega) c8; omega
      · have := qh i (by omega); omega
  have kn : ∀ p n, p < 6 → n < 4 → kw t p n = -1 := fun p n hp hn => qk _ (by omega) (by omega)
  refine ⟨⟨⟨hb, fun s hs => ?_⟩, qh⟩, by omega, ⟨⟨?_, ?_, ?_, ?_, ?_⟩, ?_, ?_, ?_, ?_, q0.1⟩⟩
  · have := qz (41 + s) (by omega) (by omega)
    rw [if_neg (by omega)]; omega
  · intro p n hp hn _
    have := kn p n hp hn
    unfold kw at this; omega
  · intro s hs _
    rw [qz (45 + s) (by omega) (by omega), q4]; decide
  · intro w hw
    exact ((qw w (by omega)).1 hw).2.2.2.1
  · intro w hw hw2
    exact ((qw w hw).1 hw2).2.2.1
  · intro s hs
    exact qz _ (by omega) (by omega)
  · intro w hw hw2
    have := (qw w hw).1 hw2
    omega
  · intro s hs hs2
    have x := (qs s hs).1 hs2
    have z1 := qz (37 + s) (by omega) (by omega)
    have z2 := qz (45 + s) (by omega) (by omega)
    refine ⟨by omega, by omega, Or.inl z1, fun _ => z2, fun _ n _ hbit => absurd hbit (bit_0 z2), fun _ _ n hn hk => ?_⟩
    have := kn (t (33 + s)).toNat n (by omega) hn
    omega
  · intro w hw hw2 n hn
    have x := (qw w hw).1 hw2
    have k1 := kn (t (5 + w)).toNat n (by omega) hn
    have k2 := kn (t (13 + w)).toNat n (by omega) hn
    exact ⟨fun h => by omega, fun h => by omega⟩
  · intro p n hp hn _
    have := kn p n hp hn
    omega
/-- a call of both, with one answer -/
def pub (jc jm : Nat) (args : List Value) (E : Nat → Nat → Int) : Prop := ∃ v E1 E2, am_sem 8 jc (.ref 0 :: args) am_S0 (dI E) = some (some (.int v), am_S0, dI E1) ∧ am_sem 8 jm (.ref 378 :: args) am_S0 (dI E1) = some (some (.int v), am_S0, dI E2) ∧ GG E2
/-- where neither changes anything -/
theorem pub_r {jc jm : Nat} {args : List Value} {E : Nat → Nat → Int} {v : Int32} (h : GG E) (h1 : am_sem 8 jc (.ref 0 :: args) am_S0 (dI E) = some (some (.int v), am_S0, dI E)) (h2 : am_sem 8 jm (.ref 378 :: args) am_S0 (dI E) = some (some (.int v), am_S0, dI E)) : pub jc jm args E := ⟨v, E, E, h1, h2, h⟩
