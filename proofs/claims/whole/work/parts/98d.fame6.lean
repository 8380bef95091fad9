/-! ===== fame: what the reference can come to ===== -/
/-- the least that holds A and is closed under Q -/
def Rc (A : Nat → Prop) (Q : Nat → Nat → Prop) (i : Nat) : Prop := ∀ P : Nat → Prop, (∀ i, A i → P i) → (∀ i j, P i → Q i j → P j) → P i
theorem Rc_z {A : Nat → Prop} {Q : Nat → Nat → Prop} {i : Nat} (h : A i) : Rc A Q i := fun _ h1 _ => h1 i h
theorem Rc_s {A : Nat → Prop} {Q : Nat → Nat → Prop} {i j : Nat} (h : Rc A Q i) (q : Q i j) : Rc A Q j := fun P h1 h2 => h2 i j (h P h1 h2) q
def thB (F : Nat → Int) (d0 : Int) (p day : Nat) : Bool := decide (F p ≤ d0 + day)
def stA (t F : Nat → Int) (s n D : Nat) (i : Nat) : Prop := ∃ day : Nat, (day : Int) = bgT t s - t 3 ∧ day ≤ D ∧ i = laI (thB F (t 3) (t (33 + s)).toNat day) (decide (t (29 + s) = 5)) (decide (0 < t (37 + s))) day (t (33 + s)).toNat ((t (45 + s)).toNat / 2 ^ n % 2) 0
def suA (t F : Nat → Int) (s D : Nat) (i j : Nat) : Prop := i / 768 + 1 ≤ D ∧ j = laI (thB F (t 3) (i / 128 % 6) (i / 768 + 1)) (decide (t (29 + s) = 5)) false (i / 768 + 1) (i / 128 % 6) (i / 64 % 2) (i % 64)
def suB (t F : Nat → Int) (s D w : Nat) (i j : Nat) : Prop := ∃ to, (((t (5 + w)).toNat = i / 128 % 6 ∧ to = (t (13 + w)).toNat) ∨ ((t (5 + w)).toNat ≠ i / 128 % 6 ∧ (t (13 + w)).toNat = i / 128 % 6 ∧ to = (t (5 + w)).toNat)) ∧ i / 768 + (tkT t s w).toNat ≤ D ∧ j = laI (thB F (t 3) to (i / 768 + (tkT t s w).toNat)) (decide (t (29 + s) = 5)) true (i / 768 + (tkT t s w).toNat) to (i / 64 % 2) (i % 64)
def suQ (t F : Nat → Int) (s D W : Nat) (i j : Nat) : Prop := suA t F s D i j ∨ ∃ w, w < W ∧ suB t F s D w i j
theorem laI_b {T gh nw : Bool} {day p kn S : Nat} (hp : p < 6) (hk : kn ≤ 1) (hS : S < 64) : 768 * day ≤ laI T gh nw day p kn S ∧ laI T gh nw day p kn S < 768 * (day + 1) := by
  have p64 : (2 : Nat) ^ p ≤ 32 := Nat.pow_le_pow_right (show 0 < 2 by omega) (show p ≤ 5 by omega)
  have o64 : S ||| 2 ^ p < 2 ^ 6 := Nat.or_lt_two_pow (by omega) (by omega)
  unfold laI
  generalize S ||| 2 ^ p = B at *
  (repeat' split) <;> omega
/-- the best of those in R -/
def bR (R : Nat → Prop) (M D : Int) : Prop := ((M = 0 ∧ D = 0) ∨ ∃ i, R i ∧ 0 < bcF 64 (i % 64) ∧ M = (bcF 64 (i % 64) : Int) ∧ D = ((i / 768 : Nat) : Int)) ∧ ∀ i, R i → (bcF 64 (i % 64) : Int) < M ∨ ((bcF 64 (i % 64) : Int) = M ∧ (0 < M → D ≤ ((i / 768 : Nat) : Int)))
theorem bR_c {R R' : Nat → Prop} {M D : Int} (H : bR R M D) (h : ∀ i, R' i ↔ R i) : bR R' M D := by
  refine ⟨H.1.imp id (fun ⟨i, x, y⟩ => ⟨i, (h i).mpr x, y⟩), fun i x => H.2 i ((h i).mp x)⟩
theorem bR_1 {R R' : Nat → Prop} {M D : Int} {k : Nat} (H : bR R M D) (hk : ∀ i, R i → i < k) (h : ∀ i, R' i ↔ R i ∨ i = k) : bR R' (if M < (bcF 64 (k % 64) : Int) then (bcF 64 (k % 64) : Int) else M) (if M < (bcF 64 (k % 64) : Int) then ((k / 768 : Nat) : Int) else D) := by
  have M0 : 0 ≤ M := by rcases H.1 with ⟨x, -⟩ | ⟨i, -, -, x, -⟩ <;> omega
  by_cases c : M < (bcF 64 (k % 64) : Int)
  · rw [if_pos c, if_pos c]
    refine ⟨Or.inr ⟨k, (h k).mpr (Or.inr rfl), by omega, rfl, rfl⟩, fun i x => ?_⟩
    rcases (h i).mp x with x | x
    · have := H.2 i x
      omega
    · subst x; right; exact ⟨rfl, fun _ => Int.le_refl _⟩
  · rw [if_neg c, if_neg c]
    refine ⟨H.1.imp id (fun ⟨i, x, y⟩ => ⟨i, (h i).mpr (Or.inl x), y⟩), fun i x => ?_⟩
    rcases (h i).mp x with x | x
    · exact H.2 i x
    · subst x
      by_cases e : (bcF 64 (i % 64) : Int) = M
      · right
        refine ⟨e, fun hM => ?_⟩
        rcases H.1 with ⟨y, -⟩ | ⟨q, y1, -, -, y4⟩
        · omega
        · have := hk q y1
          have : q / 768 ≤ i / 768 := Nat.div_le_div_right (by omega)
          omega
      · left; omega
def laG (D : Nat) (T gh nw : Bool) (day p kn S : Nat) (g : Nat → Int) : Nat → Int := if day ≤ D then updI g (laI T gh nw day p kn S) 1 else g
theorem laG_e {D : Nat} {T gh nw : Bool} {day p kn S : Nat} {g : Nat → Int} {i : Nat} (h : g i = 1) : laG D T gh nw day p kn S g i = 1 := by
  unfold laG; split
  · by_cases e : i = laI T gh nw day p kn S
    · rw [e, updI_s]
    · rw [updI_n e, h]
  · exact h
theorem laG_k {D : Nat} {T gh nw : Bool} {day p kn S : Nat} {g : Nat → Int} {i : Nat} (h : i < 768 * day) (hp : p < 6) (hk : kn ≤ 1) (hS : S < 64) : laG D T gh nw day p kn S g i = g i := by
  have := laI_b (T := T) (gh := gh) (nw := nw) (day := day) hp hk hS
  unfold laG; split
  · rw [updI_n (by omega)]
  · rfl
theorem laG_o {D : Nat} {T gh nw : Bool} {day p kn S : Nat} {g : Nat → Int} {i : Nat} (h : laG D T gh nw day p kn S g i = 1) : g i = 1 ∨ (day ≤ D ∧ i = laI T gh nw day p kn S) := by
  unfold laG at h
  split at h
  · rename_i c
    by_cases e : i = laI T gh nw day p kn S
    · exact Or.inr ⟨c, e⟩
    · rw [updI_n e] at h; exact Or.inl h
  · exact Or.inl h
theorem laG_01 {D : Nat} {T gh nw : Bool} {day p kn S : Nat} {g : Nat → Int} (h : ∀ i, i < 23808 → g i = 0 ∨ g i = 1) : ∀ i, i < 23808 → laG D T gh nw day p kn S g i = 0 ∨ laG D T gh nw day p kn S g i = 1 := fun i hi => by
  unfold laG; split
  · by_cases e : i = laI T gh nw day p kn S
    · rw [e, updI_s]; exact Or.inr rfl
    · rw [updI_n e]; exact h i hi
  · exact h i hi
theorem laG_h {D : Nat} {T gh nw : Bool} {day p kn S : Nat} {g : Nat → Int} (h : day ≤ D) : laG D T gh nw day p kn S g (laI T gh nw day p kn S) = 1 := by
  unfold laG; rw [if_pos h, updI_s]
