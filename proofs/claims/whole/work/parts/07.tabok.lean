/-! ===== what the tables say, checked by program ===== -/
theorem am_cT_ok : ∀ e ∈ am_cT, Cond.constant (am_rn (e.1 / 1000)) (e.1 % 1000) e.2 ∈ lw_tbl := by decide +kernel
theorem am_dT_ok : ∀ e ∈ am_dT, Cond.constantLong (am_rn (e.1 / 1000)) (e.1 % 1000) e.2 ∈ lw_tbl := by decide +kernel
def am_fok (e : Nat × Nat × Nat × Nat) : Bool := match vwCl[e.2.1]? with
  | some (_, T, N) => decide (e.2.2.1 < N) && (decide (Cond.fieldLink (am_rn (e.1 / 1000)) (e.1 % 1000) (T e.2.2.1).1 (T e.2.2.1).2.1 (T e.2.2.1).2.2.1 ∈ lw_tbl) && decide (am_st e.2.1 e.2.2.1 = e.2.2.2))
  | none => false
theorem am_fT_ok : am_fT.all am_fok = true := by decide +kernel
def am_rt (ty : FieldType) : Bool := match ty with
  | .object _ => true
  | .array _ => true
  | _ => false
/-- a field's sort, its type, whether it is final -/
def am_srt (t : Nat) (ty : FieldType) (fin : Bool) : Bool := (t == 0 && ty == .int && !fin) || (t == 1 && ty == .boolean && !fin) || (t == 2 && am_rt ty && fin)
def am_clP (ci : Nat) (C : String) (T : u_T) (N : Nat) : Prop := (∀ w ∈ u_ws C T N, w ∈ lw_tbl) ∧ N = am_nf ci ∧ C = am_rn ci ∧ (∀ k, k < N → (T k).1 = C) ∧ ∃ ty0 : Nat → FieldType, (∀ k, k < N → parseFieldDescriptor (T k).2.2.1 = some (ty0 k)) ∧ (∀ a, a < N → ∀ b, b < N → a ≠ b → (T a).2.1 ≠ (T b).2.1) ∧ (∀ k, k < N → am_srt (am_st ci k) (ty0 k) (T k).2.2.2 = true)
theorem am_cl0 : am_clP 0 RX0 TX0 3 := ⟨by decide +kernel, by decide +kernel, rfl, by decide +kernel, tyX0, tyX0_ok, nmX0, by decide +kernel⟩
theorem am_cl1 : am_clP 1 RX1 TX1 3 := ⟨by decide +kernel, by decide +kernel, rfl, by decide +kernel, tyX1, tyX1_ok, nmX1, by decide +kernel⟩
theorem am_cl2 : am_clP 2 RX2 TX2 6 := ⟨by decide +kernel, by decide +kernel, rfl, by decide +kernel, tyX2, tyX2_ok, nmX2, by decide +kernel⟩
theorem am_cl3 : am_clP 3 RX3 TX3 16 := ⟨by decide +kernel, by decide +kernel, rfl, by decide +kernel, tyX3, tyX3_ok, nmX3, by decide +kernel⟩
theorem am_cl4 : am_clP 4 RX4 TX4 3 := ⟨by decide +kernel, by decide +kernel, rfl, by decide +kernel, tyX4, tyX4_ok, nmX4, by decide +kernel⟩
theorem am_cl5 : am_clP 5 RX5 TX5 7 := ⟨by decide +kernel, by decide +kernel, rfl, by decide +kernel, tyX5, tyX5_ok, nmX5, by decide +kernel⟩
theorem am_cl6 : am_clP 6 RX6 TX6 3 := ⟨by decide +kernel, by decide +kernel, rfl, by decide +kernel, tyX6, tyX6_ok, nmX6, by decide +kernel⟩
theorem am_cl7 : am_clP 7 RX7 TX7 6 := ⟨by decide +kernel, by decide +kernel, rfl, by decide +kernel, tyX7, tyX7_ok, nmX7, by decide +kernel⟩
theorem am_cl8 : am_clP 8 RX8 TX8 2 := ⟨by decide +kernel, by decide +kernel, rfl, by decide +kernel, tyX8, tyX8_ok, nmX8, by decide +kernel⟩
theorem am_cl9 : am_clP 9 RX9 TX9 12 := ⟨by decide +kernel, by decide +kernel, rfl, by decide +kernel, tyX9, tyX9_ok, nmX9, by decide +kernel⟩
theorem am_cl10 : am_clP 10 RX10 TX10 27 := ⟨by decide +kernel, by decide +kernel, rfl, by decide +kernel, tyX10, tyX10_ok, nmX10, by decide +kernel⟩
theorem am_cls {ci N : Nat} {C : String} {T : u_T} (h : vwCl[ci]? = some (C, T, N)) : am_clP ci C T N := by
  match ci, h with
  | 0, h => cases h; exact am_cl0
  | 1, h => cases h; exact am_cl1
  | 2, h => cases h; exact am_cl2
  | 3, h => cases h; exact am_cl3
  | 4, h => cases h; exact am_cl4
  | 5, h => cases h; exact am_cl5
  | 6, h => cases h; exact am_cl6
  | 7, h => cases h; exact am_cl7
  | 8, h => cases h; exact am_cl8
  | 9, h => cases h; exact am_cl9
  | 10, h => cases h; exact am_cl10
  | k + 11, h => simp [vwCl] at h
