/-! ===== the first rows ===== -/
def E0 : Nat → Nat → Int := fun b i => if (b = 2 ∨ b = 380) ∧ i < 8 then -1 else 0
theorem E0_z {b i : Nat} (h : ¬ (b = 2 ∨ b = 380)) : E0 b i = 0 := by unfold E0; rw [if_neg (fun x => h x.1)]
theorem E0_r {b : Nat} (h : ¬ (b = 2 ∨ b = 380)) : E0 b = fun _ => 0 := funext (fun _ => E0_z h)
theorem lgR_0 (a : Nat) (h : 2 < a ∧ (a + 11 < 380 ∨ 380 < a)) : lgR E0 a (fun _ => 0) := by
  refine ⟨⟨⟨E0_z (by omega), E0_z (by omega), E0_z (by omega), E0_z (by omega), E0_z (by omega)⟩, fun w _ x => ?_, fun s _ x => ?_, fun n _ x => ?_, fun i _ => ?_⟩, fun s _ x => ?_⟩
  · exfalso; simp only at x; omega
  · exfalso; simp only at x; omega
  · exfalso; simp only at x; omega
  · rw [E0_z (by omega)]
    show (0 : Int) = if (0 : Int) < 0 then -1000000 else 0
    rw [if_neg (by omega)]
  · exfalso; simp only at x; omega
theorem GG_0 : GG E0 := by
  refine ⟨⟨fun r hr => ⟨?_, Or.inl ⟨?_, ?_⟩, fun k hk => ?_⟩, fun i => ?_⟩, ⟨0, by omega, E0_z (by omega), E0_z (by omega), ?_, fun i => ?_⟩, ⟨?_, ?_⟩, ⟨?_, Or.inl ⟨E0_z (by omega), E0_r (by omega)⟩⟩, ⟨0, 0, E0_z (by omega), ?_, fun h => by omega⟩, fun k hk => Or.inl ⟨E0_z (by omega), E0_z (by omega)⟩, ⟨0, by omega, E0_z (by omega), E0_z (by omega), fun i hi => by omega⟩, ⟨fun i hi => E0_z (by omega), fun i hi => E0_z (by omega)⟩⟩
  · rw [E0_z (by omega)]; omega
  · unfold E0; rw [if_pos ⟨by omega, hr⟩]
  · unfold E0; rw [if_pos ⟨by omega, hr⟩]
  · rw [E0_z (by omega), E0_z (by omega)]
  · rw [E0_z (by omega)]; omega
  · rw [E0_r (by omega), E0_r (by omega)]
  · rw [E0_z (by omega)]; omega
  · rw [E0_z (by omega), E0_z (by omega)]
  · rw [E0_z (by omega), E0_z (by omega)]
  · rw [E0_r (show ¬ (383 = 2 ∨ 383 = 380) by omega)]; exact lgR_0 28 (by omega)
  · refine ⟨E0_z (by omega), E0_z (by omega), by omega, by omega, fun i hi => by omega⟩
