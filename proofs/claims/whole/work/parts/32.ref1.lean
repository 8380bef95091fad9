/-! ===== the reference: small static methods ===== -/
theorem r_in {d : Nat} {S : am_S} {D : am_D} {x y z : Int64} : am_sem (d + 1) 135 [.long x, .long y, .long z] S D = some (some (.int (if ¬ x < y ∧ ¬ z < x then 1 else 0)), S, D) := by
  refine mX10_in rfl rfl am_bb ?_
  simp only [eX10_in_0, eX10_in_1, eX10_in_2, eX10_in_3, eX10_in_6, eX10_in_7, eX10_in_9, eX10_in_10, eX10_in_13, eX10_in_14, eX10_in_17, eX10_in_18, am_ci, am_cr, am_ca, am_b0, am_b1, am_ts, am_tn, am_then_some, List.cons_append, List.nil_append, am_L, am_G]
  (repeat' split) <;> simp_all
theorem iI_sl : ∀ n, n < 32 → ((nI n &&& 31).toBitVec.smod 32).toNat = n := by decide +kernel
theorem iI_shl {k : Nat} (h : k < 31) : (iI 1 <<< (iI (k : Int) &&& iI 31)) = iI ((2 ^ k : Nat) : Int) := by
  have e := pk_shlN (n := 1) (nI k &&& 31) k (iI_sl k (by omega)) (by rw [Nat.one_mul]; exact Nat.lt_of_lt_of_le (Nat.pow_lt_pow_right (by omega) h) (by decide))
  rw [Nat.one_mul] at e
  rw [← iI_nI, ← iI_nI]
  exact e
theorem iI_or (a b : Nat) : iI (a : Int) ||| iI (b : Int) = iI ((a ||| b : Nat) : Int) := by
  rw [← iI_nI, ← iI_nI, ← iI_nI]
  apply Int32.toBitVec_inj.1
  show BitVec.ofNat 32 a ||| BitVec.ofNat 32 b = BitVec.ofNat 32 (a ||| b)
  apply BitVec.eq_of_getLsbD_eq
  intro i hi
  simp [hi]
theorem iI_and (a b : Nat) : iI (a : Int) &&& iI (b : Int) = iI ((a &&& b : Nat) : Int) := by
  rw [← iI_nI, ← iI_nI, ← iI_nI]
  apply Int32.toBitVec_inj.1
  show BitVec.ofNat 32 a &&& BitVec.ofNat 32 b = BitVec.ofNat 32 (a &&& b)
  apply BitVec.eq_of_getLsbD_eq
  intro i hi
  simp [hi]
/-- which news a port knows, the first k of them -/
def knT (t : Nat → Int) (p : Nat) : Nat → Nat
  | 0 => 0
  | k + 1 => knT t p k ||| (if 0 ≤ t (61 + 4 * p + k) then 2 ^ k else 0)
/-- every number of the data is an int -/
def eB (E : Nat → Nat → Int) : Prop := ∀ a i, -2147483648 ≤ E a i ∧ E a i < 2147483648
theorem r_knownIn {d q p : Nat} {E : Nat → Nat → Int} (hE : eB E) (hk : am_kd am_S0 q = 1) (hl : am_ln am_S0 q = 85) (hp : p < 6) : am_sem (d + 1) 158 [.ref q, .int (iI p)] am_S0 (dI E) = some (some (.int (iI (knT (E q) p 4))), am_S0, dI E) := by
  refine mX10_knownIn rfl rfl ?_
  simp (disch := first | omega | simp only [am_ci, am_cr, am_ca]) only [eX10_knownIn_0, eX10_knownIn_1, eX10_knownIn_2, eX10_knownIn_3, am_ci, am_cr, am_ca, am_b0, am_b1, am_ts, am_tn, am_then_some, List.cons_append, List.nil_append, iI_lit]
  refine am_loop (P := fun k => am_ev (am_sem d) 10 cX10_knownIn 4 [.ref q, .int (iI p), .int (iI (knT (E q) p k)), .int (iI k)] [] am_S0 (dI E) (some (.int (iI (knT (E q) p 4))), am_S0, dI E)) (n := 4) ?_ ?_ (k := 0) (by omega)
  · intro k hk4 ih
    have b1 := hE q (61 + 4 * p + k)
    have i1 : (61 + 4 * (p : Int) + (k : Int)).toNat = 61 + 4 * p + k := by omega
    rw [eX10_knownIn_4]
    simp (disch := first | omega | simp only [am_ci, am_cr, am_ca]) only [eX10_knownIn_0, eX10_knownIn_1, eX10_knownIn_2, eX10_knownIn_3, eX10_knownIn_5, eX10_knownIn_6, eX10_knownIn_9, eX10_knownIn_10, eX10_knownIn_11, eX10_knownIn_13, eX10_knownIn_14, eX10_knownIn_15, eX10_knownIn_16, eX10_knownIn_17, eX10_knownIn_18, eX10_knownIn_19, eX10_knownIn_20, eX10_knownIn_23, eX10_knownIn_24, eX10_knownIn_25, eX10_knownIn_26, eX10_knownIn_29, eX10_knownIn_30, eX10_knownIn_31, eX10_knownIn_32, eX10_knownIn_35, eX10_knownIn_38, eX10_knownIn_39, am_ci, am_cr, am_ca, am_b0, am_b1, am_ts, am_tn, am_then_some, List.cons_append, List.nil_append, iI_lit, iI_add, iI_mul, iI_lt, iI_le, iI_in, iI_clz, dI_ap, i1, hk, hl, true_and, iI_shl]
    trace_state
    sorry
  · rw [eX10_knownIn_4]
    simp (disch := first | omega | simp only [am_ci, am_cr, am_ca]) only [eX10_knownIn_0, eX10_knownIn_1, eX10_knownIn_2, eX10_knownIn_3, eX10_knownIn_5, eX10_knownIn_6, eX10_knownIn_9, eX10_knownIn_10, eX10_knownIn_11, eX10_knownIn_13, eX10_knownIn_14, eX10_knownIn_15, eX10_knownIn_16, eX10_knownIn_17, eX10_knownIn_18, eX10_knownIn_19, eX10_knownIn_20, eX10_knownIn_23, eX10_knownIn_24, eX10_knownIn_25, eX10_knownIn_26, eX10_knownIn_29, eX10_knownIn_30, eX10_knownIn_31, eX10_knownIn_32, eX10_knownIn_35, eX10_knownIn_38, eX10_knownIn_39, am_ci, am_cr, am_ca, am_b0, am_b1, am_ts, am_tn, am_then_some, List.cons_append, List.nil_append, iI_lit, iI_le]
    trace_state
    sorry
