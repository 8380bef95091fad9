/-! ===== rows for constants, fields, arrays, calls ===== -/
section
variable {cal : am_C} {own : Nat} {cc : ByteArray} {pc : Nat} {ls st : List Value} {S : am_S} {D : am_D} {r : am_R}
theorem am_e_ldc {idx : Nat} {v : Int32} (hd : decode cc pc = .ok (.ldc idx, 2)) (hc : am_lu am_cT own idx = some v) : am_ev cal own cc pc ls st S D r = am_ev cal own cc (pc + 2) ls (.int v :: st) S D r := by
  refine am_ev_go hd ?_
  show am_q 2 2 (match am_lu am_cT own idx with | some v => am_go (pc + 2) ls (.int v :: st) S D | none => none) = _
  rw [hc]; rfl
theorem am_e_ldcw {idx : Nat} {v : Int32} (hd : decode cc pc = .ok (.ldc_w idx, 3)) (hc : am_lu am_cT own idx = some v) : am_ev cal own cc pc ls st S D r = am_ev cal own cc (pc + 3) ls (.int v :: st) S D r := by
  refine am_ev_go hd ?_
  show am_q 3 3 (match am_lu am_cT own idx with | some v => am_go (pc + 3) ls (.int v :: st) S D | none => none) = _
  rw [hc]; rfl
theorem am_e_ldc2 {idx : Nat} {v : Int64} (hd : decode cc pc = .ok (.ldc2_w idx, 3)) (hc : am_lu am_dT own idx = some v) : am_ev cal own cc pc ls st S D r = am_ev cal own cc (pc + 3) ls (.long v :: st) S D r := by
  refine am_ev_go hd ?_
  show am_q 3 3 (match am_lu am_dT own idx with | some v => am_go (pc + 3) ls (.long v :: st) S D | none => none) = _
  rw [hc]; rfl
theorem am_e_get {idx ci k so a : Nat} (hd : decode cc pc = .ok (.getfield idx, 3)) (hf : am_fl own idx = some (ci, k, so)) : am_ev cal own cc pc ls (.ref a :: st) S D r = (am_kd S a = ci + 5 ∧ am_ev cal own cc (pc + 3) ls (am_fv S D a k so :: st) S D r) := by
  refine am_ev_if hd ?_
  show am_q 3 3 (match am_fl own idx with | some (ci, k, so) => am_if (am_kd S a = ci + 5) (am_go (pc + 3) ls (am_fv S D a k so :: st) S D) none | none => none) = _
  rw [hf]; rfl
theorem am_e_getI {idx ci k a : Nat} (hd : decode cc pc = .ok (.getfield idx, 3)) (hf : am_fl own idx = some (ci, k, 0)) : am_ev cal own cc pc ls (.ref a :: st) S D r = (am_kd S a = ci + 5 ∧ am_ev cal own cc (pc + 3) ls (.int (D a k) :: st) S D r) := am_e_get hd hf
theorem am_e_getZ {idx ci k a : Nat} (hd : decode cc pc = .ok (.getfield idx, 3)) (hf : am_fl own idx = some (ci, k, 1)) : am_ev cal own cc pc ls (.ref a :: st) S D r = (am_kd S a = ci + 5 ∧ am_ev cal own cc (pc + 3) ls (.int (D a k) :: st) S D r) := am_e_get hd hf
theorem am_e_getR {idx ci k a : Nat} (hd : decode cc pc = .ok (.getfield idx, 3)) (hf : am_fl own idx = some (ci, k, 2)) : am_ev cal own cc pc ls (.ref a :: st) S D r = (am_kd S a = ci + 5 ∧ am_ev cal own cc (pc + 3) ls (va_rf (am_rf S a k) :: st) S D r) := am_e_get hd hf
theorem am_e_putI {idx ci k a : Nat} {x : Int32} (hd : decode cc pc = .ok (.putfield idx, 3)) (hf : am_fl own idx = some (ci, k, 0)) : am_ev cal own cc pc ls (.int x :: .ref a :: st) S D r = (am_kd S a = ci + 5 ∧ am_ev cal own cc (pc + 3) ls st S (am_wr D a k x) r) := by
  refine am_ev_if hd ?_
  show am_q 3 3 (match am_fl own idx, Value.int x :: Value.ref a :: st with
    | some (ci, k, 0), .int x :: .ref a :: t => am_if (am_kd S a = ci + 5) (am_go (pc + 3) ls t S (am_wr D a k x)) none
    | some (ci, k, 1), .int x :: .ref a :: t => am_if (am_kd S a = ci + 5 ∧ (x = 0 ∨ x = 1)) (am_go (pc + 3) ls t S (am_wr D a k x)) none
    | some (ci, k, 2), .ref b :: .ref a :: t => am_if (am_kd S a = ci + 5 ∧ am_kd S b ≠ 0 ∧ own = ci + 100) (am_go (pc + 3) ls t (am_wf S a k (some b)) D) none
    | _, _ => none) = _
  rw [hf]; rfl
theorem am_e_putZ {idx ci k a : Nat} {x : Int32} (hd : decode cc pc = .ok (.putfield idx, 3)) (hf : am_fl own idx = some (ci, k, 1)) : am_ev cal own cc pc ls (.int x :: .ref a :: st) S D r = ((am_kd S a = ci + 5 ∧ (x = 0 ∨ x = 1)) ∧ am_ev cal own cc (pc + 3) ls st S (am_wr D a k x) r) := by
  refine am_ev_if hd ?_
  show am_q 3 3 (match am_fl own idx, Value.int x :: Value.ref a :: st with
    | some (ci, k, 0), .int x :: .ref a :: t => am_if (am_kd S a = ci + 5) (am_go (pc + 3) ls t S (am_wr D a k x)) none
    | some (ci, k, 1), .int x :: .ref a :: t => am_if (am_kd S a = ci + 5 ∧ (x = 0 ∨ x = 1)) (am_go (pc + 3) ls t S (am_wr D a k x)) none
    | some (ci, k, 2), .ref b :: .ref a :: t => am_if (am_kd S a = ci + 5 ∧ am_kd S b ≠ 0 ∧ own = ci + 100) (am_go (pc + 3) ls t (am_wf S a k (some b)) D) none
    | _, _ => none) = _
  rw [hf]; rfl
theorem am_e_putR {idx ci k a b : Nat} (hd : decode cc pc = .ok (.putfield idx, 3)) (hf : am_fl own idx = some (ci, k, 2)) : am_ev cal own cc pc ls (.ref b :: .ref a :: st) S D r = ((am_kd S a = ci + 5 ∧ am_kd S b ≠ 0 ∧ own = ci + 100) ∧ am_ev cal own cc (pc + 3) ls st (am_wf S a k (some b)) D r) := by
  refine am_ev_if hd ?_
  show am_q 3 3 (match am_fl own idx, Value.ref b :: Value.ref a :: st with
    | some (ci, k, 0), .int x :: .ref a :: t => am_if (am_kd S a = ci + 5) (am_go (pc + 3) ls t S (am_wr D a k x)) none
    | some (ci, k, 1), .int x :: .ref a :: t => am_if (am_kd S a = ci + 5 ∧ (x = 0 ∨ x = 1)) (am_go (pc + 3) ls t S (am_wr D a k x)) none
    | some (ci, k, 2), .ref b :: .ref a :: t => am_if (am_kd S a = ci + 5 ∧ am_kd S b ≠ 0 ∧ own = ci + 100) (am_go (pc + 3) ls t (am_wf S a k (some b)) D) none
    | _, _ => none) = _
  rw [hf]; rfl
theorem am_e_iald {a : Nat} {i : Int32} (hd : decode cc pc = .ok (.iaload, 1)) : am_ev cal own cc pc ls (.int i :: .ref a :: st) S D r = ((am_kd S a = 1 ∧ vp_in i (am_ln S a)) ∧ am_ev cal own cc (pc + 1) ls (.int (D a i.toNatClampNeg) :: st) S D r) := am_ev_if hd rfl
theorem am_e_bald {a : Nat} {i : Int32} (hd : decode cc pc = .ok (.baload, 1)) : am_ev cal own cc pc ls (.int i :: .ref a :: st) S D r = ((am_kd S a = 2 ∧ vp_in i (am_ln S a)) ∧ am_ev cal own cc (pc + 1) ls (.int (D a i.toNatClampNeg) :: st) S D r) := am_ev_if hd rfl
theorem am_e_aald {a : Nat} {i : Int32} (hd : decode cc pc = .ok (.aaload, 1)) : am_ev cal own cc pc ls (.int i :: .ref a :: st) S D r = (((am_kd S a = 3 ∨ am_kd S a = 4) ∧ vp_in i (am_ln S a)) ∧ am_ev cal own cc (pc + 1) ls (va_rf (am_rf S a i.toNatClampNeg) :: st) S D r) := am_ev_if hd rfl
theorem am_e_iast {a : Nat} {i x : Int32} (hd : decode cc pc = .ok (.iastore, 1)) : am_ev cal own cc pc ls (.int x :: .int i :: .ref a :: st) S D r = ((am_kd S a = 1 ∧ vp_in i (am_ln S a)) ∧ am_ev cal own cc (pc + 1) ls st S (am_wr D a i.toNatClampNeg x) r) := am_ev_if hd rfl
theorem am_e_bast {a : Nat} {i x : Int32} (hd : decode cc pc = .ok (.bastore, 1)) : am_ev cal own cc pc ls (.int x :: .int i :: .ref a :: st) S D r = ((am_kd S a = 2 ∧ vp_in i (am_ln S a) ∧ (x = 0 ∨ x = 1)) ∧ am_ev cal own cc (pc + 1) ls st S (am_wr D a i.toNatClampNeg x) r) := am_ev_if hd rfl
theorem am_e_aast {a b : Nat} {i : Int32} (hd : decode cc pc = .ok (.aastore, 1)) : am_ev cal own cc pc ls (.ref b :: .int i :: .ref a :: st) S D r = ((am_kd S a = 3 ∧ am_kd S b = 8 ∧ vp_in i (am_ln S a)) ∧ am_ev cal own cc (pc + 1) ls st (am_wf S a i.toNatClampNeg (some b)) D r) := am_ev_if hd rfl
theorem am_e_alen {a : Nat} (hd : decode cc pc = .ok (.arraylength, 1)) : am_ev cal own cc pc ls (.ref a :: st) S D r = (am_kd S a = 1 ∧ am_ev cal own cc (pc + 1) ls (.int (nI (am_ln S a)) :: st) S D r) := am_ev_if hd rfl
theorem am_e_div {x y : Int32} (hd : decode cc pc = .ok (.idiv, 1)) : am_ev cal own cc pc ls (.int y :: .int x :: st) S D r = (y ≠ 0 ∧ am_ev cal own cc (pc + 1) ls (.int (x / y) :: st) S D r) := by
  have e : am_nxt cal own .idiv 1 pc ls (.int y :: .int x :: st) S D = am_if (y = 0) none (am_go (pc + 1) ls (.int (x / y) :: st) S D) := rfl
  by_cases h : y = 0
  · rw [am_if_t h] at e; rw [am_ev_no hd e]; simp [h]
  · rw [am_if_f h] at e; rw [am_ev_go hd e]; simp [h]
theorem am_e_rem {x y : Int32} (hd : decode cc pc = .ok (.irem, 1)) : am_ev cal own cc pc ls (.int y :: .int x :: st) S D r = (y ≠ 0 ∧ am_ev cal own cc (pc + 1) ls (.int (x - x / y * y) :: st) S D r) := by
  have e : am_nxt cal own .irem 1 pc ls (.int y :: .int x :: st) S D = am_if (y = 0) none (am_go (pc + 1) ls (.int (x - x / y * y) :: st) S D) := rfl
  by_cases h : y = 0
  · rw [am_if_t h] at e; rw [am_ev_no hd e]; simp [h]
  · rw [am_if_f h] at e; rw [am_ev_go hd e]; simp [h]
theorem am_e_ldiv {x y : Int64} (hd : decode cc pc = .ok (.ldiv, 1)) : am_ev cal own cc pc ls (.long y :: .long x :: st) S D r = (y ≠ 0 ∧ am_ev cal own cc (pc + 1) ls (.long (x / y) :: st) S D r) := by
  have e : am_nxt cal own .ldiv 1 pc ls (.long y :: .long x :: st) S D = am_if (y = 0) none (am_go (pc + 1) ls (.long (x / y) :: st) S D) := rfl
  by_cases h : y = 0
  · rw [am_if_t h] at e; rw [am_ev_no hd e]; simp [h]
  · rw [am_if_f h] at e; rw [am_ev_go hd e]; simp [h]
theorem am_e_lrem {x y : Int64} (hd : decode cc pc = .ok (.lrem, 1)) : am_ev cal own cc pc ls (.long y :: .long x :: st) S D r = (y ≠ 0 ∧ am_ev cal own cc (pc + 1) ls (.long (x - x / y * y) :: st) S D r) := by
  have e : am_nxt cal own .lrem 1 pc ls (.long y :: .long x :: st) S D = am_if (y = 0) none (am_go (pc + 1) ls (.long (x - x / y * y) :: st) S D) := rfl
  by_cases h : y = 0
  · rw [am_if_t h] at e; rw [am_ev_no hd e]; simp [h]
  · rw [am_if_f h] at e; rw [am_ev_go hd e]; simp [h]
theorem am_e_callV {idx j ci a n : Nat} {M : MethodName × ByteArray × Nat × Option FieldType × Nat × Nat × Nat × Nat × Nat} {as : List Value} (hd : decode cc pc = .ok (.invokevirtual idx, 3)) (hlk : am_lk own idx = some (j + 4, 0)) (hM : am_M[j]? = some M) (hk : M.2.2.2.2.2.1 = 1) (hna : M.2.2.2.2.2.2.1 = n) (hci : M.2.2.2.2.1 = ci) (hl : (Value.ref a :: as).length = n) (hs : st.length ≤ 4) :
    am_ev cal own cc pc ls ((Value.ref a :: as).reverse ++ st) S D r = (am_kd S a = ci + 5 ∧ am_then (cal j (Value.ref a :: as) S D) (fun v S' D' => am_ev cal own cc (pc + 3) ls (v.toList ++ st) S' D' r)) := by
  refine am_ev_call (kind := 1) (na := n) hd hM hk hna (by rw [List.length_reverse]; exact hl) hs ?_ ?_
  · rw [hci]
    constructor
    · rintro (h | ⟨b, h1, h2⟩)
      · cases h
      · cases h1; exact h2
    · intro h; exact Or.inr ⟨a, rfl, h⟩
  · show am_q 3 3 (match am_lk own idx with | some (j + 4, 0) => am_call cal 1 j pc ls _ S D | _ => none) = _
    rw [hlk]; rfl
theorem am_e_callS {idx j z n : Nat} {M : MethodName × ByteArray × Nat × Option FieldType × Nat × Nat × Nat × Nat × Nat} {as : List Value} (hd : decode cc pc = .ok (.invokestatic idx, 3)) (hlk : am_lk own idx = some (j + 4, z)) (hM : am_M[j]? = some M) (hk : M.2.2.2.2.2.1 = 0) (hna : M.2.2.2.2.2.2.1 = n) (hl : as.length = n) (hs : st.length ≤ 4) :
    am_ev cal own cc pc ls (as.reverse ++ st) S D r = am_then (cal j as S D) (fun v S' D' => am_ev cal own cc (pc + 3) ls (v.toList ++ st) S' D' r) := by
  rw [am_ev_call (kind := 0) (na := n) (c := True) hd hM hk hna (by rw [List.length_reverse]; exact hl) hs ⟨fun _ => trivial, fun _ => Or.inl rfl⟩ ?_]
  · simp
  · show am_q 3 3 (match am_lk own idx with | some (1, 0) => am_copy pc ls _ S D | some (2, 0) => _ | some (3, 0) => _ | some (j + 4, _) => am_call cal 0 j pc ls _ S D | _ => none) = _
    rw [hlk]; rfl
theorem am_e_callI {idx j z ci a n : Nat} {M : MethodName × ByteArray × Nat × Option FieldType × Nat × Nat × Nat × Nat × Nat} {as : List Value} (hd : decode cc pc = .ok (.invokespecial idx, 3)) (hlk : am_lk own idx = some (j + 4, z)) (hM : am_M[j]? = some M) (hk : M.2.2.2.2.2.1 = 2) (hna : M.2.2.2.2.2.2.1 = n) (hci : M.2.2.2.2.1 = ci) (hl : (Value.ref a :: as).length = n) (hs : st.length ≤ 4) :
    am_ev cal own cc pc ls ((Value.ref a :: as).reverse ++ st) S D r = (am_kd S a = ci + 5 ∧ am_then (cal j (Value.ref a :: as) S D) (fun v S' D' => am_ev cal own cc (pc + 3) ls (v.toList ++ st) S' D' r)) := by
  refine am_ev_call (kind := 2) (na := n) hd hM hk hna (by rw [List.length_reverse]; exact hl) hs ?_ ?_
  · rw [hci]
    constructor
    · rintro (h | ⟨b, h1, h2⟩)
      · cases h
      · cases h1; exact h2
    · intro h; exact Or.inr ⟨a, rfl, h⟩
  · show am_q 3 3 (match am_lk own idx with | some (0, 0) => _ | some (j + 4, _) => am_call cal 2 j pc ls _ S D | _ => none) = _
    rw [hlk]; rfl
theorem am_e_obj {idx a : Nat} (hd : decode cc pc = .ok (.invokespecial idx, 3)) (hlk : am_lk own idx = some (0, 0)) (hs : st.length ≤ 4) : am_ev cal own cc pc ls (.ref a :: st) S D r = am_ev cal own cc (pc + 3) ls st S D r := by
  rw [am_ev_if (c := st.length ≤ 4) (pc' := pc + 3) (ls' := ls) (st' := st) (S' := S) (D' := D) hd ?_]
  · simp [hs]
  · show am_q 3 3 (match am_lk own idx with | some (0, 0) => am_r1 (Value.ref a :: st) fun _ t => am_if (t.length ≤ 4) (am_go (pc + 3) ls t S D) none | some (j + 4, _) => _ | _ => none) = _
    rw [hlk]; rfl
theorem am_e_max {idx : Nat} {x y : Int32} (hd : decode cc pc = .ok (.invokestatic idx, 3)) (hlk : am_lk own idx = some (2, 0)) (hs : st.length ≤ 4) : am_ev cal own cc pc ls (.int y :: .int x :: st) S D r = am_ev cal own cc (pc + 3) ls (.int (if x < y then y else x) :: st) S D r := by
  rw [am_ev_if (c := st.length ≤ 4) (pc' := pc + 3) (ls' := ls) (st' := .int (if x < y then y else x) :: st) (S' := S) (D' := D) hd ?_]
  · simp [hs]
  · show am_q 3 3 (match am_lk own idx with | some (1, 0) => _ | some (2, 0) => am_i2 (Value.int y :: Value.int x :: st) fun y x t => am_if (t.length ≤ 4) (am_go (pc + 3) ls (.int (if x < y then y else x) :: t) S D) none | some (3, 0) => _ | some (j + 4, _) => _ | _ => none) = _
    rw [hlk]; rfl
theorem am_e_min {idx : Nat} {x y : Int32} (hd : decode cc pc = .ok (.invokestatic idx, 3)) (hlk : am_lk own idx = some (3, 0)) (hs : st.length ≤ 4) : am_ev cal own cc pc ls (.int y :: .int x :: st) S D r = am_ev cal own cc (pc + 3) ls (.int (if y < x then y else x) :: st) S D r := by
  rw [am_ev_if (c := st.length ≤ 4) (pc' := pc + 3) (ls' := ls) (st' := .int (if y < x then y else x) :: st) (S' := S) (D' := D) hd ?_]
  · simp [hs]
  · show am_q 3 3 (match am_lk own idx with | some (1, 0) => _ | some (2, 0) => _ | some (3, 0) => am_i2 (Value.int y :: Value.int x :: st) fun y x t => am_if (t.length ≤ 4) (am_go (pc + 3) ls (.int (if y < x then y else x) :: t) S D) none | some (j + 4, _) => _ | _ => none) = _
    rw [hlk]; rfl
theorem am_e_copy {idx a b : Nat} {n dp sp : Int32} (hd : decode cc pc = .ok (.invokestatic idx, 3)) (hlk : am_lk own idx = some (1, 0)) : am_ev cal own cc pc ls (.int n :: .int dp :: .ref b :: .int sp :: .ref a :: st) S D r = ((am_kd S a = 1 ∧ am_kd S b = 1 ∧ ¬ sp < 0 ∧ ¬ dp < 0 ∧ ¬ n < 0 ∧ sp.toNatClampNeg + n.toNatClampNeg ≤ am_ln S a ∧ dp.toNatClampNeg + n.toNatClampNeg ≤ am_ln S b ∧ st.length ≤ 4) ∧ am_ev cal own cc (pc + 3) ls st S (am_cp D a sp.toNatClampNeg b dp.toNatClampNeg n.toNatClampNeg) r) := by
  refine am_ev_if hd ?_
  show am_q 3 3 (match am_lk own idx with | some (1, 0) => am_copy pc ls _ S D | some (2, 0) => _ | some (3, 0) => _ | some (j + 4, _) => _ | _ => none) = _
  rw [hlk]; rfl
theorem am_e_new {idx ci : Nat} (hd : decode cc pc = .ok (.new idx, 3)) (hc : am_lu am_nT own idx = some ci) : am_ev cal own cc pc ls st S D r = am_ev cal own cc (pc + 3) ls (.ref (am_nx S) :: st) (am_nw S (ci + 5) (am_nf ci)) (am_zr D (am_nx S)) r := by
  refine am_ev_go hd ?_
  show am_q 3 3 (match am_lu am_nT own idx with | some ci => am_go (pc + 3) ls (.ref (am_nx S) :: st) (am_nw S (ci + 5) (am_nf ci)) (am_zr D (am_nx S)) | none => none) = _
  rw [hc]; rfl
end
/-- a switch by numbers, from k on -/
def am_sw (x : Int32) (f : Nat → Prop) (dt : Nat) : Nat → List Nat → Prop
  | _, [] => f dt
  | k, t :: ts => if x = nI k then f t else am_sw x f dt (k + 1) ts
