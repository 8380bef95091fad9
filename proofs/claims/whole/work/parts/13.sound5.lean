/-! ===== soundness: the JDK's own, ends, whole methods ===== -/
section
variable {p : Program} {l : Launch} {e : Env} {R : Room} {s : State} {m : MethodId} {args : Array Value} {below : List Frame} {meth : Method} {c : Code} {Q : State → Prop} {bs : Nat} {q : am_Q} {Dg : va_G} {own nL nx0 sl0 : Nat} {cc : ByteArray}
set_option maxHeartbeats 4000000 in
theorem am_copy_snd {idx pc : Nat} {ls st : List Value} {S : am_S} {D : am_D} {x9 : am_X} (C : am_Cx p s m args meth c own cc nL Dg q bs nx0) (hR : 1 ≤ R.frames ∧ 33 ≤ R.locals) (hd : decode cc pc = .ok (.invokestatic idx, 3)) (hlk : am_lk own idx = some (1, 0)) (h : am_copy pc ls st S D = some x9)
    (ih : ∀ pc ls st S D, x9 = .inr (pc, ls, st, S, D) → am_W p l e R s m args below meth c Q bs q Dg nL nx0 sl0 pc ls st S D) : am_W p l e R s m args below meth c Q bs q Dg nL nx0 sl0 pc ls st S D := by
  obtain ⟨hx, hb, hml, hown, hts, hK, hxt, hbs, hini⟩ := C
  intro H locs als hS hl
  obtain ⟨hP, hV, hw, hn0, hs0⟩ := hS
  unfold am_copy at h
  split at h
  · rename_i n dp b sp a t
    replace h := am_if_n h
    obtain ⟨⟨k1, k2, h1, h2, h3, h4, h5, h6⟩, h⟩ := h
    have ha := am_lt hw k1 (by omega)
    have hbb := am_lt hw k2 (by omega)
    have hcs : ((t.map (am_sv bs)).map fun v => v.category).sum ≤ 8 := am_catsum h6
    have w1 := am_lk_c hlk (by omega)
    simp only [if_neg (show ¬ (1 = 0) by omega), if_true] at w1
    refine va_copyi (D := Dg) (ty := .int) hx hb (by rw [hml]; exact hl.1.symm) hown (hts _ (am_tw_of w1 rfl)) (hts _ (am_tw_of am_t_an rfl)) (hts _ (am_tw_of am_t_as rfl)) (hts _ (am_tw_of am_t_si rfl)) hK hP am_wld_D hV a b 0 0 (am_cell_1 (q := q) (bs := bs) (D := D) k1 ▸ am_wld_get ha) (am_cell_1 (q := q) (bs := bs) (D := D) k2 ▸ am_wld_get hbb) rfl rfl rfl h1 h2 h3 h4 h5 (fun _ _ => rfl) hR.1 (by show _ + (5 + 2 + 11) ≤ _; omega) hd (fun H1 locs1 hP1 hD1 hV1 => ?_)
    refine ih _ _ _ _ _ (am_is h) H1 locs1 als ⟨?_, hV1, hw, hn0, hs0⟩ hl
    rw [am_wld_set (S := S) (S' := S) (D := D) (D' := am_cp D a sp.toNatClampNeg b dp.toNatClampNeg n.toNatClampNeg) (a := b) rfl ?_ (fun b2 hb2 => am_cell_congr rfl rfl (fun _ => rfl) (by funext i; simp [am_cp, hb2]))] at hP1
    · exact hP1
    · rw [am_cell_1 k2]
      have e9 : am_cp D a sp.toNatClampNeg b dp.toNatClampNeg n.toNatClampNeg b = va_cpy (D a) (D b) sp.toNatClampNeg dp.toNatClampNeg n.toNatClampNeg := by
        funext i
        simp [am_cp]
      rw [e9]
  · cases h
set_option maxHeartbeats 4000000 in
/-- one step of the machine -/
theorem am_nxt_snd {d : Nat} {i : Jvm.ClassFile.Instr} {len pc : Nat} {ls st : List Value} {S : am_S} {D : am_D} {x9 : am_X} (IH : am_met l d) (C : am_Cx p s m args meth c own cc nL Dg q bs nx0) (hR : d + 1 ≤ R.frames ∧ 33 * (d + 1) ≤ R.locals) (hcap : ∀ pc ls st S D, x9 = .inr (pc, ls, st, S, D) → am_nx S ≤ nx0 + R.cells ∧ am_sl S ≤ sl0 + R.slots) (hd : decode cc pc = .ok (i, len)) (h : am_nxt (am_sem d) own i len pc ls st S D = some x9)
    (fi : ∀ x, i = .ireturn → len = 1 → st = [.int x] → x9 = .inl (some (.int x), S, D) → am_W p l e R s m args below meth c Q bs q Dg nL nx0 sl0 pc ls st S D)
    (fv : i = .return_ → len = 1 → st = [] → x9 = .inl (none, S, D) → am_W p l e R s m args below meth c Q bs q Dg nL nx0 sl0 pc ls st S D)
    (ih : ∀ pc ls st S D, x9 = .inr (pc, ls, st, S, D) → am_W p l e R s m args below meth c Q bs q Dg nL nx0 sl0 pc ls st S D) : am_W p l e R s m args below meth c Q bs q Dg nL nx0 sl0 pc ls st S D := by
  cases i
  case getfield idx => exact am_mid_snd (by exact True.intro) C hd h ih
  case putfield idx => exact am_mid_snd (by exact True.intro) C hd h ih
  case iaload => exact am_mid_snd (by exact True.intro) C hd h ih
  case baload => exact am_mid_snd (by exact True.intro) C hd h ih
  case aaload => exact am_mid_snd (by exact True.intro) C hd h ih
  case iastore => exact am_mid_snd (by exact True.intro) C hd h ih
  case bastore => exact am_mid_snd (by exact True.intro) C hd h ih
  case aastore => exact am_mid_snd (by exact True.intro) C hd h ih
  case arraylength => exact am_mid_snd (by exact True.intro) C hd h ih
  case ldc idx => exact am_mid_snd (by exact True.intro) C hd h ih
  case ldc_w idx => exact am_mid_snd (by exact True.intro) C hd h ih
  case ldc2_w idx => exact am_mid_snd (by exact True.intro) C hd h ih
  case new idx => exact am_new_snd C hcap hd h ih
  case newarray ty => exact am_newa_snd C hcap hd h ih
  case anewarray idx => exact am_anew_snd C hcap hd h ih
  case multianewarray idx dm => exact am_multi_snd C hcap hd h ih
  case ireturn =>
    replace h := am_q_inv h
    obtain ⟨rfl, h⟩ := h
    split at h
    · rename_i x
      exact fi x rfl rfl rfl (am_is h)
    · cases h
  case return_ =>
    replace h := am_q_inv h
    obtain ⟨rfl, h⟩ := h
    split at h
    · exact fv rfl rfl rfl (am_is h)
    · cases h
  case invokevirtual idx =>
    replace h := am_q_inv h
    obtain ⟨rfl, h⟩ := h
    split at h
    · rename_i j hlk
      exact am_call_snd (kind := 1) IH C hR hcap hd hlk (fun _ => rfl) h ih
    · cases h
  case invokestatic idx =>
    replace h := am_q_inv h
    obtain ⟨rfl, h⟩ := h
    split at h
    · rename_i hlk
      exact am_copy_snd C ⟨by omega, by omega⟩ hd hlk h ih
    · rename_i hlk
      obtain ⟨hx, hb, hml, hown, hts, hK, hxt, hbs, hini⟩ := C
      intro H locs als hS hl
      replace h := am_i2_inv h
      obtain ⟨y, x, t, rfl, h⟩ := h
      replace h := am_if_n h
      obtain ⟨h6, h⟩ := h
      have w1 := am_lk_c hlk (by omega)
      simp only [if_neg (show ¬ (2 = 0) by omega), if_neg (show ¬ (2 = 1) by omega), if_true] at w1
      have hcs : ((t.map (am_sv bs)).map fun v => v.category).sum ≤ 8 := am_catsum h6
      have hcp := hcap _ _ _ _ _ (am_is h)
      exact va_mmax hx hb (by rw [hml]; exact hl.1.symm) hown (hts _ (am_tw_of w1 rfl)) (hts _ (am_tw_of am_t_maxs rfl)) (hts _ (am_tw_of am_t_mi rfl)) (hts _ (am_tw_of am_t_maxc rfl)) (by omega) (by omega) (by omega) (by omega) hd (ih _ _ _ _ _ (am_is h) H locs als hS hl)
    · rename_i hlk
      obtain ⟨hx, hb, hml, hown, hts, hK, hxt, hbs, hini⟩ := C
      intro H locs als hS hl
      replace h := am_i2_inv h
      obtain ⟨y, x, t, rfl, h⟩ := h
      replace h := am_if_n h
      obtain ⟨h6, h⟩ := h
      have w1 := am_lk_c hlk (by omega)
      simp only [if_neg (show ¬ (3 = 0) by omega), if_neg (show ¬ (3 = 1) by omega), if_neg (show ¬ (3 = 2) by omega)] at w1
      have hcs : ((t.map (am_sv bs)).map fun v => v.category).sum ≤ 8 := am_catsum h6
      have hcp := hcap _ _ _ _ _ (am_is h)
      exact va_mmin hx hb (by rw [hml]; exact hl.1.symm) hown (hts _ (am_tw_of w1 rfl)) (hts _ (am_tw_of am_t_mins rfl)) (hts _ (am_tw_of am_t_mi rfl)) (hts _ (am_tw_of am_t_minc rfl)) (by omega) (by omega) (by omega) (by omega) hd (ih _ _ _ _ _ (am_is h) H locs als hS hl)
    · rename_i j z hlk
      exact am_call_snd (kind := 0) IH C hR hcap hd hlk (fun h0 => by cases h0) h ih
    · cases h
  case invokespecial idx =>
    replace h := am_q_inv h
    obtain ⟨rfl, h⟩ := h
    split at h
    · rename_i hlk
      obtain ⟨hx, hb, hml, hown, hts, hK, hxt, hbs, hini⟩ := C
      intro H locs als hS hl
      replace h := am_r1_inv h
      obtain ⟨a, t, rfl, h⟩ := h
      replace h := am_if_n h
      obtain ⟨h6, h⟩ := h
      have w1 := am_lk_c hlk (by omega)
      simp only [if_true] at w1
      have hcs : ((t.map (am_sv bs)).map fun v => v.category).sum ≤ 8 := am_catsum h6
      exact W.objInit hx hb hown (hts _ (am_tw_of w1 rfl)) (hts _ (am_tw_of am_t_oi rfl)) (hts _ (am_tw_of am_t_oc rfl)) rfl (by rw [hml]; exact hl.1) rfl hd (by omega) (by show 2 * 0 + _ + 12 ≤ _; omega) (ih _ _ _ _ _ (am_is h) H locs als hS hl)
    · rename_i j z hlk
      exact am_call_snd (kind := 2) IH C hR hcap hd hlk (fun h0 => by cases h0) h ih
    · cases h
  all_goals exact am_easy_snd (by exact True.intro) C hd h ih
end
