/-! ===== soundness: new cells; the JDK's own; ends; whole methods ===== -/
section
variable {p : Program} {l : Launch} {e : Env} {R : Room} {s : State} {m : MethodId} {args : Array Value} {below : List Frame} {meth : Method} {c : Code} {Q : State → Prop} {bs : Nat} {q : am_Q} {Dg : va_G} {own nL nx0 sl0 : Nat} {cc : ByteArray}
theorem am_sizeU {n k : Nat} {H : Heap} {locs : List Loc} {g : JFrame} (kk : H.size ≤ s.heap.size + n → W p l e R s m args below meth c H locs n k Q g) : W p l e R s m args below meth c H locs n k Q g := by
  intro T hT X
  refine kk ?_ T hT X
  have h1 : T.heap.size ≤ s.heap.size + n := X.same.2.2.1
  rw [hT] at h1
  exact h1
theorem am_place {S : am_S} {D : am_D} {x : Nat} {E : va_E} {H1 : Heap} (hP1 : va_P Dg vwCl (am_wld q bs S D ++ [(x, E)]) H1) (hD1 : va_D (fun z => bs ≤ z) (am_wld q bs S D ++ [(x, E)])) (hs : H1.size ≤ bs + am_nx S + 1) : x = bs + am_nx S := by
  have hlen : (am_wld q bs S D).length = am_nx S := by unfold am_wld; rw [List.length_map, List.length_range]
  have hl : (am_wld q bs S D ++ [(x, E)])[am_nx S]? = some (x, E) := by
    rw [List.getElem?_append_right (by omega), hlen, Nat.sub_self]
    rfl
  have h1 := (hP1 _ _ hl).lt
  have h2 := hD1.2 _ _ hl
  simp only at h1 h2
  rcases Nat.lt_or_ge x (bs + am_nx S) with h3 | h3
  · have h4 : (am_wld q bs S D ++ [(x, E)])[x - bs]? = some (bs + (x - bs), am_cell q bs S D (x - bs)) := by
      rw [List.getElem?_append_left (by omega)]
      exact am_wld_get (by omega)
    have := hD1.1 _ _ _ _ hl h4 (by simp only; omega)
    omega
  · omega
theorem am_push {S : am_S} {D : am_D} {k n : Nat} {E : va_E} (hE : am_cell q bs (am_nw S k n) (am_zr D (am_nx S)) (am_nx S) = E) : am_wld q bs S D ++ [(bs + am_nx S, E)] = am_wld q bs (am_nw S k n) (am_zr D (am_nx S)) := by
  unfold am_wld
  rw [show am_nx (am_nw S k n) = am_nx S + 1 from rfl, List.range_succ, List.map_append]
  congr 1
  · apply List.map_congr_left
    intro a ha
    have h := List.mem_range.mp ha
    have hne : a ≠ am_nx S := by omega
    rw [am_cell_congr (S' := am_nw S k n) (D' := am_zr D (am_nx S)) (S := S) (D := D) (a := a)]
    · show (if a = am_nx S then k else am_kd S a) = am_kd S a
      rw [if_neg hne]
    · show (if a = am_nx S then n else am_ln S a) = am_ln S a
      rw [if_neg hne]
    · intro i
      show (if a = am_nx S then none else am_rf S a i) = am_rf S a i
      rw [if_neg hne]
    · funext i
      show (if a = am_nx S then 0 else D a i) = D a i
      rw [if_neg hne]
  · simp only [List.map_cons, List.map_nil, hE]
theorem am_wS_nw {S : am_S} {k n : Nat} (h : am_wS S) : am_wS (am_nw S k n) := by
  intro a ha
  have ha : am_nx S + 1 ≤ a := ha
  show (if a = am_nx S then k else am_kd S a) = 0
  rw [if_neg (by omega)]
  exact h a (by omega)
theorem am_nT_at {own idx ci : Nat} (h : am_lu am_nT own idx = some ci) : Cond.classLink (am_rn (own % 100)) idx (am_rn ci) ∈ lw_tbl ∧ Cond.instantiable (am_rn ci) (am_nf ci) ∈ lw_tbl ∧ Cond.initialized (am_rn ci) ∈ lw_tbl ∧ ci < 11 := by
  obtain ⟨hi, hm⟩ := am_lu_mem h
  obtain ⟨n, hn⟩ := List.getElem?_of_mem hm
  obtain ⟨y, hy⟩ := am_zip am_nT_len hn
  have h1 := List.all_eq_true.mp am_nT_ok _ hy
  unfold am_nok at h1
  simp only [(am_key hi).1, (am_key hi).2, Bool.and_eq_true, decide_eq_true_eq] at h1
  exact ⟨List.mem_of_getElem? h1.1, List.mem_of_getElem? h1.2.1, List.mem_of_getElem? h1.2.2.1, h1.2.2.2⟩
set_option maxHeartbeats 4000000 in
theorem am_new_snd {cal : am_C} {idx len pc : Nat} {ls st : List Value} {S : am_S} {D : am_D} {x9 : am_X} (C : am_Cx p s m args meth c own cc nL Dg q bs nx0) (hcap : ∀ pc ls st S D, x9 = .inr (pc, ls, st, S, D) → am_nx S ≤ nx0 + R.cells ∧ am_sl S ≤ sl0 + R.slots) (hd : decode cc pc = .ok (.new idx, len)) (h : am_nxt cal own (.new idx) len pc ls st S D = some x9)
    (ih : ∀ pc ls st S D, x9 = .inr (pc, ls, st, S, D) → am_W p l e R s m args below meth c Q bs q Dg nL nx0 sl0 pc ls st S D) : am_W p l e R s m args below meth c Q bs q Dg nL nx0 sl0 pc ls st S D := by
  obtain ⟨hx, hb, hml, hown, hts, hK, hxt, hbs, hini⟩ := C
  intro H locs als hS hl
  obtain ⟨hP, hV, hw, hn0, hs0⟩ := hS
  replace h := am_q_inv h
  obtain ⟨rfl, h⟩ := h
  split at h
  · rename_i ci hci
    obtain ⟨w1, w2, w3, hlt⟩ := am_nT_at hci
    obtain ⟨cq, hcq⟩ : ∃ x, vwCl[ci]? = some x := ⟨_, List.getElem?_eq_getElem (show ci < vwCl.length from hlt)⟩
    obtain ⟨CN, T, N⟩ := cq
    have hcl := am_cls hcq
    obtain ⟨h1, h2, h3, h4, ty0, h5, h6, h7⟩ := hcl
    have hcp := hcap _ _ _ _ _ (am_is h)
    have hnn : am_nx (am_nw S (ci + 5) (am_nf ci)) = am_nx S + 1 := rfl
    have hss : am_sl (am_nw S (ci + 5) (am_nf ci)) = am_sl S + am_nf ci := rfl
    have hkd : am_kd (am_nw S (ci + 5) (am_nf ci)) (am_nx S) = ci + 5 := by
      show (if am_nx S = am_nx S then ci + 5 else _) = _
      rw [if_pos rfl]
    rw [← h3] at w1 w2 w3
    rw [← h2] at w2
    refine va_new (ci := ci) (fs := (List.range (am_nf ci)).map fun i => am_sv bs (am_fv (am_nw S (ci + 5) (am_nf ci)) (am_zr D (am_nx S)) (am_nx S) i (am_st ci i))) (C := CN) (T := T) (N := N) hx hb hts (am_lay_good h1) ty0 h5 hown (hts _ (am_tw_of w1 rfl)) (hts _ (am_tw_of w2 rfl)) (hts _ (am_tw_of w3 rfl)) hK hP am_wld_D hV (fun z hz => by omega) hcq ?_ (by omega) (by omega) hd (fun x H1 hP1 hD1 hV1 => ?_)
    · intro j hj
      have h8 := h7 j hj
      have h9 : vp_V ((List.range (am_nf ci)).map fun i => am_sv bs (am_fv (am_nw S (ci + 5) (am_nf ci)) (am_zr D (am_nx S)) (am_nx S) i (am_st ci i))) j = am_sv bs (am_fv (am_nw S (ci + 5) (am_nf ci)) (am_zr D (am_nx S)) (am_nx S) j (am_st ci j)) := by
        unfold vp_V
        rw [List.getD_eq_getElem?_getD, List.getElem?_map, List.getElem?_range (by omega)]
        rfl
      rw [h9]
      have hz : am_zr D (am_nx S) (am_nx S) j = 0 := by
        show (if am_nx S = am_nx S then 0 else _) = _
        rw [if_pos rfl]
      have hrf : am_rf (am_nw S (ci + 5) (am_nf ci)) (am_nx S) j = none := by
        show (if am_nx S = am_nx S then none else _) = _
        rw [if_pos rfl]
      unfold am_fv
      rw [hz, hrf]
      simp only [am_srt, Bool.or_eq_true, Bool.and_eq_true, beq_iff_eq] at h8
      rcases h8 with (h8 | h8) | h8
      · rw [h8.1.1, h8.1.2]; rfl
      · rw [h8.1.1, h8.1.2]; rfl
      · rw [h8.1.1]
        have h10 := h8.1.2
        cases hty : ty0 j <;> rw [hty] at h10 <;> first | rfl | cases h10
    · refine am_sizeU fun hle => ?_
      have hxp := am_place hP1 hD1 (by omega)
      subst hxp
      rw [am_push (S := S) (D := D) (k := ci + 5) (n := am_nf ci) (am_cell_obj hkd)] at hP1
      have hW := ih _ _ _ _ _ (am_is h) H1 locs als ⟨hP1, hV1, am_wS_nw hw, by omega, by omega⟩ hl
      rw [show am_nx S - nx0 + 1 = am_nx (am_nw S (ci + 5) (am_nf ci)) - nx0 by omega, show am_sl S - sl0 + N = am_sl (am_nw S (ci + 5) (am_nf ci)) - sl0 by omega]
      exact hW
  · cases h
set_option maxHeartbeats 4000000 in
theorem am_newa_snd {cal : am_C} {at9 : ArrayType} {len pc : Nat} {ls st : List Value} {S : am_S} {D : am_D} {x9 : am_X} (C : am_Cx p s m args meth c own cc nL Dg q bs nx0) (hcap : ∀ pc ls st S D, x9 = .inr (pc, ls, st, S, D) → am_nx S ≤ nx0 + R.cells ∧ am_sl S ≤ sl0 + R.slots) (hd : decode cc pc = .ok (.newarray at9, len)) (h : am_nxt cal own (.newarray at9) len pc ls st S D = some x9)
    (ih : ∀ pc ls st S D, x9 = .inr (pc, ls, st, S, D) → am_W p l e R s m args below meth c Q bs q Dg nL nx0 sl0 pc ls st S D) : am_W p l e R s m args below meth c Q bs q Dg nL nx0 sl0 pc ls st S D := by
  obtain ⟨hx, hb, hml, hown, hts, hK, hxt, hbs, hini⟩ := C
  intro H locs als hS hl
  obtain ⟨hP, hV, hw, hn0, hs0⟩ := hS
  replace h := am_q_inv h
  obtain ⟨rfl, h⟩ := h
  replace h := am_i1_inv h
  obtain ⟨n, t, rfl, h⟩ := h
  obtain ⟨⟨hn, hN, hty⟩, h⟩ := am_if_n h
  have hcp := hcap _ _ _ _ _ (am_is h)
  generalize hN9 : n.toNatClampNeg = N9 at *
  have hz : am_zr D (am_nx S) (am_nx S) = fun _ => 0 := by
    funext i
    show (if am_nx S = am_nx S then 0 else _) = _
    rw [if_pos rfl]
  rcases hty with rfl | rfl
  · rw [if_pos rfl] at h hcp
    have hnn : am_nx (am_nw S 1 N9) = am_nx S + 1 := rfl
    have hss : am_sl (am_nw S 1 N9) = am_sl S + N9 := rfl
    have hkd : am_kd (am_nw S 1 N9) (am_nx S) = 1 := by
      show (if am_nx S = am_nx S then 1 else _) = _
      rw [if_pos rfl]
    have hln : am_ln (am_nw S 1 N9) (am_nx S) = N9 := by
      show (if am_nx S = am_nx S then N9 else _) = _
      rw [if_pos rfl]
    refine va_newa (D := Dg) (atype := .int) (a0 := (N9, .inl (fun _ => 0))) (ty := .int) hx hb (hts (Cond.arrayClass .int) (am_tw_of am_t_ai rfl)) rfl hK hP am_wld_D hV (fun z hz => by omega) (fun cA => rfl) hn hN9 (by show N9 * 4 ≤ _; omega) (by omega) (by omega) hd (fun x cA H1 hK1 hP1 hD1 hV1 => ?_)
    refine am_sizeU fun hle => ?_
    have hxp := am_place hP1 hD1 (by omega)
    subst hxp
    have e1 : cA = q.1 := by
      have a1 : s.vm.findClass ("[" ++ FieldType.int.toString) = some cA := (hK1.2 4 _ rfl).2
      have a2 : s.vm.findClass ("[" ++ FieldType.int.toString) = some q.1 := (hK.2 0 _ rfl).2
      exact Option.some.inj (a1.symm.trans a2)
    subst e1
    rw [am_push (S := S) (D := D) (k := 1) (n := N9) (by rw [am_cell_1 hkd, hln, hz])] at hP1
    have hW := ih _ _ _ _ _ (am_is h) H1 locs als ⟨hP1, hV1, am_wS_nw hw, by omega, by omega⟩ hl
    rw [show am_nx S - nx0 + 1 = am_nx (am_nw S 1 N9) - nx0 by omega, show am_sl S - sl0 + N9 = am_sl (am_nw S 1 N9) - sl0 by omega]
    exact hW
  · rw [if_neg (by intro z; cases z)] at h hcp
    have hnn : am_nx (am_nw S 2 N9) = am_nx S + 1 := rfl
    have hss : am_sl (am_nw S 2 N9) = am_sl S + N9 := rfl
    have hkd : am_kd (am_nw S 2 N9) (am_nx S) = 2 := by
      show (if am_nx S = am_nx S then 2 else _) = _
      rw [if_pos rfl]
    have hln : am_ln (am_nw S 2 N9) (am_nx S) = N9 := by
      show (if am_nx S = am_nx S then N9 else _) = _
      rw [if_pos rfl]
    refine va_newa (D := Dg) (atype := .boolean) (a0 := (N9, .inl (fun _ => 0))) (ty := .boolean) hx hb (hts (Cond.arrayClass .boolean) (am_tw_of am_t_az rfl)) rfl hK hP am_wld_D hV (fun z hz => by omega) (fun cA => rfl) hn hN9 (by show N9 * 1 ≤ _; omega) (by omega) (by omega) hd (fun x cA H1 hK1 hP1 hD1 hV1 => ?_)
    refine am_sizeU fun hle => ?_
    have hxp := am_place hP1 hD1 (by omega)
    subst hxp
    have e1 : cA = q.2.1 := by
      have a1 : s.vm.findClass ("[" ++ FieldType.boolean.toString) = some cA := (hK1.2 4 _ rfl).2
      have a2 : s.vm.findClass ("[" ++ FieldType.boolean.toString) = some q.2.1 := (hK.2 1 _ rfl).2
      exact Option.some.inj (a1.symm.trans a2)
    subst e1
    rw [am_push (S := S) (D := D) (k := 2) (n := N9) (by rw [am_cell_2 hkd, hln, hz])] at hP1
    have hW := ih _ _ _ _ _ (am_is h) H1 locs als ⟨hP1, hV1, am_wS_nw hw, by omega, by omega⟩ hl
    rw [show am_nx S - nx0 + 1 = am_nx (am_nw S 2 N9) - nx0 by omega, show am_sl S - sl0 + N9 = am_sl (am_nw S 2 N9) - sl0 by omega]
    exact hW
set_option maxHeartbeats 4000000 in
theorem am_anew_snd {cal : am_C} {idx len pc : Nat} {ls st : List Value} {S : am_S} {D : am_D} {x9 : am_X} (C : am_Cx p s m args meth c own cc nL Dg q bs nx0) (hcap : ∀ pc ls st S D, x9 = .inr (pc, ls, st, S, D) → am_nx S ≤ nx0 + R.cells ∧ am_sl S ≤ sl0 + R.slots) (hd : decode cc pc = .ok (.anewarray idx, len)) (h : am_nxt cal own (.anewarray idx) len pc ls st S D = some x9)
    (ih : ∀ pc ls st S D, x9 = .inr (pc, ls, st, S, D) → am_W p l e R s m args below meth c Q bs q Dg nL nx0 sl0 pc ls st S D) : am_W p l e R s m args below meth c Q bs q Dg nL nx0 sl0 pc ls st S D := by
  obtain ⟨hx, hb, hml, hown, hts, hK, hxt, hbs, hini⟩ := C
  intro H locs als hS hl
  obtain ⟨hP, hV, hw, hn0, hs0⟩ := hS
  replace h := am_q_inv h
  obtain ⟨rfl, h⟩ := h
  replace h := am_i1_inv h
  obtain ⟨n, t, rfl, h⟩ := h
  obtain ⟨⟨hlu, hn, hN⟩, h⟩ := am_if_n h
  have hcp := hcap _ _ _ _ _ (am_is h)
  obtain ⟨w1, w2, w3, hlt⟩ := am_nT_at hlu
  generalize hN9 : n.toNatClampNeg = N9 at *
  have hnn : am_nx (am_nw S 3 N9) = am_nx S + 1 := rfl
  have hss : am_sl (am_nw S 3 N9) = am_sl S + N9 := rfl
  have hkd : am_kd (am_nw S 3 N9) (am_nx S) = 3 := by
    show (if am_nx S = am_nx S then 3 else _) = _
    rw [if_pos rfl]
  have hln : am_ln (am_nw S 3 N9) (am_nx S) = N9 := by
    show (if am_nx S = am_nx S then N9 else _) = _
    rw [if_pos rfl]
  have hrf : (fun i => (am_rf (am_nw S 3 N9) (am_nx S) i).map (bs + ·)) = fun _ => none := by
    funext i
    show (if am_nx S = am_nx S then none else _ : Option Nat).map (bs + ·) = _
    rw [if_pos rfl]
    rfl
  refine va_newq (D := Dg) (C := RX3) hx hb hown (hts _ (am_tw_of w1 rfl)) hxt.2.1 hK hP am_wld_D hV (fun z hz => by omega) hn hN9 (by omega) (by omega) (by omega) hd (fun x cA H1 hK1 hP1 hD1 hV1 => ?_)
  refine am_sizeU fun hle => ?_
  have hxp := am_place hP1 hD1 (by omega)
  subst hxp
  have e1 : cA = q.2.2.1 := by
    obtain ⟨kA, cm, -, -, -, a1⟩ := (hK1.2 4 _ rfl).2
    obtain ⟨kA2, cm2, -, -, -, a2⟩ := (hK.2 2 _ rfl).2
    exact Option.some.inj (a1.symm.trans a2)
  subst e1
  rw [am_push (S := S) (D := D) (k := 3) (n := N9) (by rw [am_cell_3 hkd, hln, hrf])] at hP1
  have hW := ih _ _ _ _ _ (am_is h) H1 locs als ⟨hP1, hV1, am_wS_nw hw, by omega, by omega⟩ hl
  rw [show am_nx S - nx0 + 1 = am_nx (am_nw S 3 N9) - nx0 by omega, show am_sl S - sl0 + N9 = am_sl (am_nw S 3 N9) - sl0 by omega]
  exact hW
end
