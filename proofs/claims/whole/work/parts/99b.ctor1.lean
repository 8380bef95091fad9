/-! ===== constructors: shapes under way ===== -/
/-- am_S0's kinds and lengths, with x places made, sl slots, and references R -/
def am_Sx (x sl : Nat) (R : Nat → Nat → Option Nat) : am_S := (am_S0.1, am_S0.2.1, R, x, sl)
def rfC (R : Nat → Nat → Option Nat) (x : Nat) : Nat → Nat → Option Nat := fun a i => if a = x then none else R a i
def rfP (R : Nat → Nat → Option Nat) (a k : Nat) (o : Option Nat) : Nat → Nat → Option Nat := fun b i => if b = a ∧ i = k then o else R b i
theorem sx_k (x sl : Nat) (R : Nat → Nat → Option Nat) (a : Nat) : am_kd (am_Sx x sl R) a = am_kd am_S0 a := rfl
theorem sx_l (x sl : Nat) (R : Nat → Nat → Option Nat) (a : Nat) : am_ln (am_Sx x sl R) a = am_ln am_S0 a := rfl
theorem sx_r (x sl : Nat) (R : Nat → Nat → Option Nat) (a k : Nat) : am_rf (am_Sx x sl R) a k = R a k := rfl
theorem sx_x (x sl : Nat) (R : Nat → Nat → Option Nat) : am_nx (am_Sx x sl R) = x := rfl
theorem sx_s (x sl : Nat) (R : Nat → Nat → Option Nat) : am_sl (am_Sx x sl R) = sl := rfl
theorem sx_w (x sl : Nat) (R : Nat → Nat → Option Nat) (a k : Nat) (o : Option Nat) : am_wf (am_Sx x sl R) a k o = am_Sx x sl (rfP R a k o) := rfl
theorem sx_n {x sl k n : Nat} {R : Nat → Nat → Option Nat} (hk : am_kd am_S0 x = k) (hn : am_ln am_S0 x = n) : am_nw (am_Sx x sl R) k n = am_Sx (x + 1) (sl + n) (rfC R x) := by
  have e1 : (fun a => if a = x then k else am_S0.1 a) = am_S0.1 := by
    funext a; split
    · rename_i e; rw [e]; exact hk.symm
    · rfl
  have e2 : (fun a => if a = x then n else am_S0.2.1 a) = am_S0.2.1 := by
    funext a; split
    · rename_i e; rw [e]; exact hn.symm
    · rfl
  show ((fun a => if a = x then k else am_S0.1 a), (fun a => if a = x then n else am_S0.2.1 a), (rfC R x), x + 1, sl + n) = _
  rw [e1, e2]
  rfl
theorem zr_0 (b : Nat) (h : ¬ (b = 2 ∨ b = 380)) : am_zr (dI E0) b = dI E0 := by
  funext a i
  show (if a = b then (0 : Int32) else iI (E0 a i)) = iI (E0 a i)
  split
  · rename_i e
    rw [e, E0_z h]
    rfl
  · rfl
