/-! ===== NewsShips is made ===== -/
def ag (R : Nat → Nat → Option Nat) : Prop := ∀ b, 1 ≤ b → R b = am_rf0 b
theorem ag_0 : ag (rfC am_rf0 0) := fun b hb => by funext i; rw [rfC_n (by omega)]
theorem ag_p {R : Nat → Nat → Option Nat} (h : ag R) (k : Nat) (o : Option Nat) : ag (rfP R 0 k o) := fun b hb => by funext i; rw [rfP_n (by omega), h b hb]
/-- the two images -/
def rbT (R : Nat → Nat → Option Nat) (i : Nat) : Nat → Nat → Option Nat := fun b k => if b = 330 ∧ i ≤ k then none else R b k
theorem rbT_n {R : Nat → Nat → Option Nat} {i b : Nat} (h : b ≠ 330) : rbT R i b = R b := by funext k; unfold rbT; rw [if_neg (fun x => h x.1)]
theorem im_lg : ∀ i, i < 2 → 331 + 12 * i ∈ am_lgs ∧ am_ln am_S0 (331 + 12 * i) = 16 ∧ am_rf0 330 i = some (331 + 12 * i) := by decide +kernel
theorem im_n {k : Nat} (h : 2 ≤ k) : am_rf0 330 k = none := by
  unfold am_rf0
  rw [if_neg (by decide +kernel), if_neg (show ¬ (330 : Nat) = 41 by omega), if_pos (show (330 : Nat) = 330 from rfl), if_neg (by omega)]
