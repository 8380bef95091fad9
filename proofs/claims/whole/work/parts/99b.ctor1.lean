/-! ===== constructors: shapes under way ===== -/
/-- am_S0's kinds and lengths, with x places made, sl slots, and references R -/
def am_Sx (x sl : Nat) (R : Nat → Nat → Option Nat) : am_S := (fun a => if a < x then am_S0.1 a else 0, am_S0.2.1, R, x, sl)
def rfC (R : Nat → Nat → Option Nat) (x : Nat) : Nat → Nat → Option Nat := fun a i => if a = x then none else R a i
def rfP (R : Nat → Nat → Option Nat) (a k : Nat) (o : Option Nat) : Nat → Nat → Option Nat := fun b i => if b = a ∧ i = k then o else R b i
theorem sx_k {x sl : Nat} {R : Nat → Nat → Option Nat} {a : Nat} (h : a < x) : am_kd (am_Sx x sl R) a = am_kd am_S0 a := if_pos h
theorem S0_w : am_wS am_S0 := by
  intro a h
  show am_kdL.getD a 0 = 0
  have h1 : am_kdL.length = 395 := by decide +kernel
  have h2 : 395 ≤ a := h
  rw [List.getD_eq_getElem?_getD, List.getElem?_eq_none (by omega)]
  rfl
theorem sx_S0 : am_Sx 395 30461 am_rf0 = am_S0 := by
  have e1 : (fun a => if a < 395 then am_S0.1 a else 0) = am_S0.1 := by
    funext a; split
    · rfl
    · exact (S0_w a (by show 395 ≤ a; omega)).symm
  show ((fun a => if a < 395 then am_S0.1 a else 0), am_S0.2.1, am_rf0, 395, 30461) = am_S0
  rw [e1]
  rfl
theorem sx_wS (x sl : Nat) (R : Nat → Nat → Option Nat) : am_wS (am_Sx x sl R) := by
  intro a h
  have h2 : x ≤ a := h
  exact if_neg (by omega)
theorem sx_l (x sl : Nat) (R : Nat → Nat → Option Nat) (a : Nat) : am_ln (am_Sx x sl R) a = am_ln am_S0 a := rfl
theorem sx_r (x sl : Nat) (R : Nat → Nat → Option Nat) (a k : Nat) : am_rf (am_Sx x sl R) a k = R a k := rfl
theorem sx_x (x sl : Nat) (R : Nat → Nat → Option Nat) : am_nx (am_Sx x sl R) = x := rfl
theorem sx_s (x sl : Nat) (R : Nat → Nat → Option Nat) : am_sl (am_Sx x sl R) = sl := rfl
theorem sx_w (x sl : Nat) (R : Nat → Nat → Option Nat) (a k : Nat) (o : Option Nat) : am_wf (am_Sx x sl R) a k o = am_Sx x sl (rfP R a k o) := rfl
theorem sx_n {x sl k n : Nat} {R : Nat → Nat → Option Nat} (hk : am_kd am_S0 x = k) (hn : am_ln am_S0 x = n) : am_nw (am_Sx x sl R) k n = am_Sx (x + 1) (sl + n) (rfC R x) := by
  have e1 : (fun a => if a = x then k else if a < x then am_S0.1 a else 0) = fun a => if a < x + 1 then am_S0.1 a else 0 := by
    funext a; split
    · rename_i e; rw [e, if_pos (by omega)]; exact hk.symm
    · by_cases c : a < x
      · rw [if_pos c, if_pos (by omega)]
      · rw [if_neg c, if_neg (by omega)]
  have e2 : (fun a => if a = x then n else am_S0.2.1 a) = am_S0.2.1 := by
    funext a; split
    · rename_i e; rw [e]; exact hn.symm
    · rfl
  show ((fun a => if a = x then k else if a < x then am_S0.1 a else 0), (fun a => if a = x then n else am_S0.2.1 a), (rfC R x), x + 1, sl + n) = _
  rw [e1, e2]
  rfl
theorem zr_0 (b : Nat) (h : ¬ (b = 2 ∨ b = 380)) : am_zr (dI E0) b = dI E0 := by
  funext a i
  show (if a = b then (0 : Int32) else iI (E0 a i)) = iI (E0 a i)
  split
  · rename_i e
    rw [e, E0_z h]
    rfl
  · rfl
