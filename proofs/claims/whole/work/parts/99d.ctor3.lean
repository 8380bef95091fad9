/-! ===== what is made is as am_S0 has it ===== -/
theorem lk_n {n : Nat} : ∀ l : List (Nat × Nat), (∀ p, p ∈ l → p.1 ≠ n) → l.lookup n = none
  | [], _ => rfl
  | (x, y) :: l, h => by
    have h1 : (n == x) = false := by
      have := h (x, y) (List.mem_cons_self ..)
      simp only [beq_eq_false_iff_ne]
      exact fun e => this e.symm
    rw [List.lookup_cons, h1]
    exact lk_n l (fun p hp => h p (List.mem_cons_of_mem _ hp))
def rfK (b : Nat) : Bool := !(am_lgs.contains b) && !(b == 41) && !(b == 330) && !(b == 4) && am_rfT.all (fun p => !(p.1 / 100 == b))
theorem rf0_n {b : Nat} (h : rfK b = true) (i : Nat) : am_rf0 b i = none := by
  unfold rfK at h
  simp only [Bool.and_eq_true, Bool.not_eq_true', beq_eq_false_iff_ne, List.all_eq_true] at h
  obtain ⟨⟨⟨⟨h1, h2⟩, h3⟩, h4⟩, h5⟩ := h
  have h1' : b ∉ am_lgs := fun x => by
    rw [List.contains_iff_mem.mpr x] at h1
    cases h1
  unfold am_rf0
  rw [if_neg h1', if_neg h2, if_neg h3, if_neg h4]
  split
  · rename_i c
    refine lk_n am_rfT (fun p hp => ?_)
    have := h5 p hp
    omega
  · rfl
theorem rfl_n : am_lgs.all (fun a => (List.range 11).all (fun j => rfK (a + 1 + j))) = true := by decide +kernel
theorem rfl_m {a j : Nat} (h : am_lg a) (hj : j < 11) : rfK (a + 1 + j) = true := by
  have := List.all_eq_true.mp rfl_n a h
  exact List.all_eq_true.mp this j (List.mem_range.mpr hj)
/-- a league, made new -/
theorem i_leagueN {d a sl : Nat} {R : Nat → Nat → Option Nat} (h : am_lg a) (ha : 2 < a ∧ a + 11 < 380) (hR : ∀ b, a ≤ b → b < a + 12 → R b = am_rf0 b) : am_sem (d + 1) 30 [.ref a] (am_Sx (a + 1) sl (rfC R a)) (dI E0) = some (none, am_Sx (a + 12) (sl + 76) R, dI E0) := by
  have e : lgP (rfC R a) a = R := by
    funext b i
    unfold lgP rfC
    by_cases c : b = a
    · subst c
      rw [hR b (by omega) (by omega)]
      unfold am_rf0
      have hm : b ∈ am_lgs := h
      by_cases c2 : 5 ≤ i ∧ i < 16
      · rw [if_pos ⟨rfl, c2⟩, if_pos hm, if_pos c2]
      · rw [if_neg (fun x => c2 x.2), if_neg (by omega), if_pos rfl, if_pos hm, if_neg c2]
    · rw [if_neg (fun x => c x.1), if_neg c]
      by_cases c2 : a < b ∧ b < a + 12
      · rw [if_pos c2, hR b (by omega) c2.2]
        have x := rfl_m (j := b - a - 1) h (by omega)
        rw [show a + 1 + (b - a - 1) = b by omega] at x
        exact (rf0_n x i).symm
      · rw [if_neg c2]
  have := i_league (d := d) (sl := sl) (R := rfC R a) h ha
  rw [e] at this
  exact this
