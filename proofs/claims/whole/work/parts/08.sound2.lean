/-! ===== soundness of one step: constants, fields, arrays ===== -/
theorem am_key {own idx : Nat} (h : idx < 1000) : (own * 1000 + idx) / 1000 = own ∧ (own * 1000 + idx) % 1000 = idx := by omega
theorem am_fl_ok {own idx ci k so : Nat} (h : am_fl own idx = some (ci, k, so)) : ∃ C T N, vwCl[ci]? = some (C, T, N) ∧ k < N ∧ Cond.fieldLink (am_rn (own % 100)) idx (T k).1 (T k).2.1 (T k).2.2.1 ∈ lw_tbl ∧ am_st ci k = so := by
  obtain ⟨hi, hm⟩ := am_lu_mem h
  have h1 := List.all_eq_true.mp am_fT_ok _ hm
  unfold am_fok at h1
  simp only at h1
  cases hc : vwCl[ci]? with
  | none => rw [hc] at h1; cases h1
  | some x =>
    obtain ⟨C, T, N⟩ := x
    rw [hc] at h1
    simp only [Bool.and_eq_true, decide_eq_true_eq, (am_key hi).1, (am_key hi).2] at h1
    exact ⟨C, T, N, rfl, h1.1, h1.2.1, h1.2.2⟩
theorem am_cell_obj {q : am_Q} {bs : Nat} {S : am_S} {D : am_D} {a ci : Nat} (h : am_kd S a = ci + 5) : am_cell q bs S D a = .inr (ci, (List.range (am_nf ci)).map fun i => am_sv bs (am_fv S D a i (am_st ci i))) := by
  unfold am_cell
  rw [h]
theorem am_cell_1 {q : am_Q} {bs : Nat} {S : am_S} {D : am_D} {a : Nat} (h : am_kd S a = 1) : am_cell q bs S D a = .inl (q.1, am_ln S a, .inl (D a)) := by
  unfold am_cell
  rw [h]
theorem am_cell_2 {q : am_Q} {bs : Nat} {S : am_S} {D : am_D} {a : Nat} (h : am_kd S a = 2) : am_cell q bs S D a = .inl (q.2.1, am_ln S a, .inl (D a)) := by
  unfold am_cell
  rw [h]
theorem am_cell_3 {q : am_Q} {bs : Nat} {S : am_S} {D : am_D} {a : Nat} (h : am_kd S a = 3) : am_cell q bs S D a = .inl (q.2.2.1, am_ln S a, .inr (.inr (.inr (.inr fun i => (am_rf S a i).map (bs + ·))))) := by
  unfold am_cell
  rw [h]
theorem am_cell_4 {q : am_Q} {bs : Nat} {S : am_S} {D : am_D} {a : Nat} (h : am_kd S a = 4) : am_cell q bs S D a = .inl (q.2.2.2, am_ln S a, .inr (.inr (.inr (.inr fun i => (am_rf S a i).map (bs + ·))))) := by
  unfold am_cell
  rw [h]
theorem am_sv_rf (bs : Nat) (o : Option Nat) : va_rf (o.map (bs + ·)) = am_sv bs (va_rf o) := by cases o <;> rfl
theorem am_lt {S : am_S} (h : am_wS S) {a k : Nat} (hk : am_kd S a = k) (h0 : k ≠ 0) : a < am_nx S := by
  cases k with
  | zero => exact absurd rfl h0
  | succ k => exact am_wS_lt h hk
theorem am_set_map {α : Type} {n k : Nat} {f g : Nat → α} (h : ∀ i, i < n → i ≠ k → g i = f i) : ((List.range n).map f).set k (g k) = (List.range n).map g := by
  apply List.ext_getElem?
  intro i
  by_cases hi : i < n
  · by_cases e : i = k
    · subst e
      rw [List.getElem?_set_self (by rw [List.length_map, List.length_range]; exact hi), List.getElem?_map, List.getElem?_range hi]
      rfl
    · rw [List.getElem?_set_ne (Ne.symm e), List.getElem?_map, List.getElem?_map, List.getElem?_range hi]
      simp only [Option.map_some, h i hi e]
  · rw [List.getElem?_eq_none (by rw [List.length_set, List.length_map, List.length_range]; omega), List.getElem?_eq_none (by rw [List.length_map, List.length_range]; omega)]
section
variable {p : Program} {l : Launch} {e : Env} {R : Room} {s : State} {m : MethodId} {args : Array Value} {below : List Frame} {meth : Method} {c : Code} {Q : State → Prop} {bs : Nat} {q : am_Q} {Dg : va_G} {own nL nx0 sl0 : Nat} {cc : ByteArray}
def am_mid (i : Jvm.ClassFile.Instr) : Prop := match i with
  | .getfield _ => True
  | .putfield _ => True
  | .iaload => True
  | .baload => True
  | .aaload => True
  | .iastore => True
  | .bastore => True
  | .aastore => True
  | .arraylength => True
  | .ldc _ => True
  | .ldc_w _ => True
  | .ldc2_w _ => True
  | _ => False
set_option maxHeartbeats 4000000 in
theorem am_mid_snd {cal : am_C} {i : Jvm.ClassFile.Instr} {len pc : Nat} {ls st : List Value} {S : am_S} {D : am_D} {x9 : am_X} (he : am_mid i) (C : am_Cx p s m args meth c own cc nL Dg q bs nx0) (hd : decode cc pc = .ok (i, len)) (h : am_nxt cal own i len pc ls st S D = some x9)
    (ih : ∀ pc ls st S D, x9 = .inr (pc, ls, st, S, D) → am_W p l e R s m args below meth c Q bs q Dg nL nx0 sl0 pc ls st S D) : am_W p l e R s m args below meth c Q bs q Dg nL nx0 sl0 pc ls st S D := by
  obtain ⟨hx, hb, hml, hown, hts, hK, hxt, hbs, hini⟩ := C
  intro H locs als hS hl
  obtain ⟨hP, hV, hw, hn0, hs0⟩ := hS
  have hDD : va_D (fun x => bs ≤ x) (am_wld q bs S D) := am_wld_D
  cases i
  case ldc idx =>
    replace h := am_q_inv h
    obtain ⟨rfl, h⟩ := h
    split at h
    · rename_i v hv
      obtain ⟨hi, hm⟩ := am_lu_mem hv
      have hc := am_cT_ok _ hm
      simp only [(am_key hi).1, (am_key hi).2] at hc
      exact lv_ldc hx hb hown (hts _ (am_tw_of hc rfl)) hd (ih _ _ _ _ _ (am_is h) H locs als ⟨hP, hV, hw, hn0, hs0⟩ hl)
    · cases h
  case ldc_w idx =>
    replace h := am_q_inv h
    obtain ⟨rfl, h⟩ := h
    split at h
    · rename_i v hv
      obtain ⟨hi, hm⟩ := am_lu_mem hv
      have hc := am_cT_ok _ hm
      simp only [(am_key hi).1, (am_key hi).2] at hc
      exact lv_ldcw hx hb hown (hts _ (am_tw_of hc rfl)) hd (ih _ _ _ _ _ (am_is h) H locs als ⟨hP, hV, hw, hn0, hs0⟩ hl)
    · cases h
  case ldc2_w idx =>
    replace h := am_q_inv h
    obtain ⟨rfl, h⟩ := h
    split at h
    · rename_i v hv
      obtain ⟨hi, hm⟩ := am_lu_mem hv
      have hc := am_dT_ok _ hm
      simp only [(am_key hi).1, (am_key hi).2] at hc
      exact lv_ldc2 hx hb hown (hts _ (am_tw_of hc rfl)) hd (ih _ _ _ _ _ (am_is h) H locs als ⟨hP, hV, hw, hn0, hs0⟩ hl)
    · cases h
  case getfield idx =>
    replace h := am_q_inv h
    obtain ⟨rfl, h⟩ := h
    replace h := am_r1_inv h
    obtain ⟨a, t, rfl, h⟩ := h
    split at h
    · rename_i ci k so hf
      obtain ⟨hk, h⟩ := am_if_n h
      obtain ⟨CN, T, N, hc, hkN, hlk, hso⟩ := am_fl_ok hf
      have hcl := am_cls hc
      have ha := am_lt hw hk (by omega)
      refine va_get (D := Dg) (ci := ci) (v := am_sv bs (am_fv S D a k so)) (C := CN) (T := T) (N := N) hx hb hts (am_lay_good hcl.1) hown hK hP a (am_cell_obj (q := q) (bs := bs) (D := D) hk ▸ am_wld_get ha) hc k hkN (hts _ (am_tw_of hlk rfl)) (fun _ h9 => h9) ?_ hd (ih _ _ _ _ _ (am_is h) H locs als ⟨hP, hV, hw, hn0, hs0⟩ hl)
      rw [List.getElem?_map, List.getElem?_range (by rw [← hcl.2.1]; exact hkN), ← hso]
      rfl
    · cases h
  case putfield idx =>
    replace h := am_q_inv h
    obtain ⟨rfl, h⟩ := h
    split at h
    · rename_i ci k x a t hf
      obtain ⟨hk, h⟩ := am_if_n h
      obtain ⟨CN, T, N, hc, hkN, hlk, hso⟩ := am_fl_ok hf
      have hcl := am_cls hc
      have ha := am_lt hw hk (by omega)
      obtain ⟨h1, h2, h3, h4, ty0, h5, h6, h7⟩ := hcl
      have h8 := h7 k hkN
      rw [hso] at h8
      have h9 : ty0 k = .int ∧ (T k).2.2.2 = false := by simpa [am_srt] using h8
      have he := am_cell_obj (q := q) (bs := bs) (D := D) hk ▸ am_wld_get (q := q) (bs := bs) (D := D) ha
      refine va_put (D := Dg) (ci := ci) (v := .int x) (ty := .int) (C := CN) (T := T) (N := N) hx hb hts (am_lay_good h1) ty0 h5 h6 hown hK hP hDD hV a he hc k hkN (hts _ (am_tw_of hlk rfl)) (fun _ h9 => h9) h9.2 (by rw [h5 k hkN, h9.1]) rfl rfl (by rw [List.length_map, List.length_range, ← h2]; exact hkN) hd (fun H1 locs1 hP1 hD1 hV1 => ?_)
      refine ih _ _ _ _ _ (am_is h) H1 locs1 als ⟨?_, hV1, hw, hn0, hs0⟩ hl
      rw [← am_wld_set (S := S) (D := D) (D' := am_wr D a k x) (a := a) rfl rfl (fun b hb => am_cell_congr rfl rfl (fun _ => rfl) (am_wr_ne hb))]
      rw [am_cell_obj (q := q) (bs := bs) (D := am_wr D a k x) hk]
      rw [show ((List.range (am_nf ci)).map fun i => am_sv bs (am_fv S (am_wr D a k x) a i (am_st ci i))) = ((List.range (am_nf ci)).map fun i => am_sv bs (am_fv S D a i (am_st ci i))).set k (.int x) from ?_]
      · exact hP1
      · have h10 := am_set_map (n := am_nf ci) (k := k) (f := fun i => am_sv bs (am_fv S D a i (am_st ci i))) (g := fun i => am_sv bs (am_fv S (am_wr D a k x) a i (am_st ci i))) (fun i _ hi => by simp [am_fv, am_wr, hi])
        rw [← h10]
        congr 1
        simp [am_fv, am_wr, hso, am_sv]
    · rename_i ci k x a t hf
      obtain ⟨hk, h⟩ := am_if_n h
      obtain ⟨CN, T, N, hc, hkN, hlk, hso⟩ := am_fl_ok hf
      have hcl := am_cls hc
      have ha := am_lt hw hk.1 (by omega)
      obtain ⟨h1, h2, h3, h4, ty0, h5, h6, h7⟩ := hcl
      have h8 := h7 k hkN
      rw [hso] at h8
      have h9 : ty0 k = .boolean ∧ (T k).2.2.2 = false := by simpa [am_srt] using h8
      have he := am_cell_obj (q := q) (bs := bs) (D := D) hk.1 ▸ am_wld_get (q := q) (bs := bs) (D := D) ha
      refine va_put (D := Dg) (ci := ci) (v := .int x) (ty := .boolean) (C := CN) (T := T) (N := N) hx hb hts (am_lay_good h1) ty0 h5 h6 hown hK hP hDD hV a he hc k hkN (hts _ (am_tw_of hlk rfl)) (fun _ h9 => h9) h9.2 (by rw [h5 k hkN, h9.1]) (by rcases hk.2 with rfl | rfl <;> rfl) (by rcases hk.2 with rfl | rfl <;> rfl) (by rw [List.length_map, List.length_range, ← h2]; exact hkN) hd (fun H1 locs1 hP1 hD1 hV1 => ?_)
      refine ih _ _ _ _ _ (am_is h) H1 locs1 als ⟨?_, hV1, hw, hn0, hs0⟩ hl
      rw [← am_wld_set (S := S) (D := D) (D' := am_wr D a k x) (a := a) rfl rfl (fun b hb => am_cell_congr rfl rfl (fun _ => rfl) (am_wr_ne hb))]
      rw [am_cell_obj (q := q) (bs := bs) (D := am_wr D a k x) hk.1]
      rw [show ((List.range (am_nf ci)).map fun i => am_sv bs (am_fv S (am_wr D a k x) a i (am_st ci i))) = ((List.range (am_nf ci)).map fun i => am_sv bs (am_fv S D a i (am_st ci i))).set k (.int x) from ?_]
      · exact hP1
      · have h10 := am_set_map (n := am_nf ci) (k := k) (f := fun i => am_sv bs (am_fv S D a i (am_st ci i))) (g := fun i => am_sv bs (am_fv S (am_wr D a k x) a i (am_st ci i))) (fun i _ hi => by simp [am_fv, am_wr, hi])
        rw [← h10]
        congr 1
        simp [am_fv, am_wr, hso, am_sv]
    · rename_i ci k b a t hf
      obtain ⟨hk, h⟩ := am_if_n h
      obtain ⟨CN, T, N, hc, hkN, hlk, hso⟩ := am_fl_ok hf
      have hcl := am_cls hc
      have ha := am_lt hw hk.1 (by omega)
      obtain ⟨h1, h2, h3, h4, ty0, h5, h6, h7⟩ := hcl
      have h8 := h7 k hkN
      rw [hso] at h8
      have h9 : am_rt (ty0 k) = true ∧ (T k).2.2.2 = true := by simpa [am_srt] using h8
      have hci : ci < 11 := (List.getElem?_eq_some_iff.mp hc).1
      have ho2 : own % 100 = ci := by omega
      have he := am_cell_obj (q := q) (bs := bs) (D := D) hk.1 ▸ am_wld_get (q := q) (bs := bs) (D := D) ha
      refine va_putF (D := Dg) (ci := ci) (v := .ref (bs + b)) (ty := ty0 k) (C := CN) (T := T) (N := N) hx hb hts (am_lay_good h1) ty0 h5 h6 hown hK hP hDD hV a he hc k hkN (hts _ (am_tw_of hlk rfl)) (fun _ h9 => h9) h9.2 (hini (by omega)) (by rw [h4 k hkN, h3, ho2]) (h5 k hkN) (by have h10 := h9.1; cases hty : ty0 k <;> rw [hty] at h10 <;> first | rfl | cases h10) (by have h10 := h9.1; cases hty : ty0 k <;> rw [hty] at h10 <;> first | rfl | cases h10) (by rw [List.length_map, List.length_range, ← h2]; exact hkN) hd (fun H1 locs1 hP1 hD1 hV1 => ?_)
      refine ih _ _ _ _ _ (am_is h) H1 locs1 als ⟨?_, hV1, hw, hn0, hs0⟩ hl
      rw [← am_wld_set (S := S) (S' := am_wf S a k (some b)) (D := D) (D' := D) (a := a) rfl rfl (fun b2 hb2 => am_cell_congr rfl rfl (fun i => by simp [am_rf, am_wf, hb2]) rfl)]
      rw [am_cell_obj (q := q) (bs := bs) (S := am_wf S a k (some b)) (D := D) hk.1]
      rw [show ((List.range (am_nf ci)).map fun i => am_sv bs (am_fv (am_wf S a k (some b)) D a i (am_st ci i))) = ((List.range (am_nf ci)).map fun i => am_sv bs (am_fv S D a i (am_st ci i))).set k (.ref (bs + b)) from ?_]
      · exact hP1
      · have h10 := am_set_map (n := am_nf ci) (k := k) (f := fun i => am_sv bs (am_fv S D a i (am_st ci i))) (g := fun i => am_sv bs (am_fv (am_wf S a k (some b)) D a i (am_st ci i))) (fun i _ hi => by simp [am_fv, am_rf, am_wf, hi])
        rw [← h10]
        congr 1
        simp [am_fv, am_rf, am_wf, hso, am_sv, va_rf]
    · cases h
  case iaload =>
    replace h := am_q_inv h
    obtain ⟨rfl, h⟩ := h
    split at h
    · rename_i i a t
      obtain ⟨hk, h⟩ := am_if_n h
      have ha := am_lt hw hk.1 (by omega)
      exact va_iald (D := Dg) hx hb hK hP a 0 (am_cell_1 (q := q) (bs := bs) (D := D) hk.1 ▸ am_wld_get ha) rfl hk.2 hd (ih _ _ _ _ _ (am_is h) H locs als ⟨hP, hV, hw, hn0, hs0⟩ hl)
    · cases h
  case baload =>
    replace h := am_q_inv h
    obtain ⟨rfl, h⟩ := h
    split at h
    · rename_i i a t
      obtain ⟨hk, h⟩ := am_if_n h
      have ha := am_lt hw hk.1 (by omega)
      exact va_zald (D := Dg) hx hb hK hP a 1 (am_cell_2 (q := q) (bs := bs) (D := D) hk.1 ▸ am_wld_get ha) rfl hk.2 hd (ih _ _ _ _ _ (am_is h) H locs als ⟨hP, hV, hw, hn0, hs0⟩ hl)
    · cases h
  case aaload =>
    replace h := am_q_inv h
    obtain ⟨rfl, h⟩ := h
    split at h
    · rename_i i a t
      obtain ⟨⟨hk, hi⟩, h⟩ := am_if_n h
      have ha : a < am_nx S := by rcases hk with hk | hk <;> exact am_lt hw hk (by omega)
      have hlt : i.toNatClampNeg < am_ln S a := Nat.not_le.mp fun z => hi (Or.inr z)
      have hW := ih _ _ _ _ _ (am_is h) H locs als ⟨hP, hV, hw, hn0, hs0⟩ hl
      rw [List.map_cons, ← am_sv_rf] at hW
      rcases hk with hk | hk
      · exact va_aldq (D := Dg) hx hb hK hP a 2 (am_cell_3 (q := q) (bs := bs) (D := D) hk ▸ am_wld_get ha) rfl hi hd hW
      · have hq := hP a _ (am_cell_4 (q := q) (bs := bs) (D := D) hk ▸ am_wld_get ha)
        exact W.aald (v := va_rf ((am_rf S a i.toNatClampNeg).map (bs + ·))) (ty := .array .int) hx hb hq ((hK.2 3 _ rfl).1 (am_ln S a) (fun j => va_rf ((am_rf S a j).map (bs + ·)))) rfl (fun z => by cases z) (by show ¬ (i < 0 ∨ (arrV _ _ _).slots.size ≤ _); rw [arrV_size]; exact hi) (by show (arrV _ _ _).slots[_]? = _; rw [arrV_read _ _ hlt]) rfl rfl hd hW
    · cases h
  case iastore =>
    replace h := am_q_inv h
    obtain ⟨rfl, h⟩ := h
    split at h
    · rename_i x i a t
      obtain ⟨hk, h⟩ := am_if_n h
      have ha := am_lt hw hk.1 (by omega)
      refine va_iast (D := Dg) hx hb hK hP hDD hV a 0 (am_cell_1 (q := q) (bs := bs) (D := D) hk.1 ▸ am_wld_get ha) rfl hk.2 hd (fun H1 locs1 hP1 hD1 hV1 => ?_)
      refine ih _ _ _ _ _ (am_is h) H1 locs1 als ⟨?_, hV1, hw, hn0, hs0⟩ hl
      rw [am_wld_set (S := S) (S' := S) (D := D) (D' := am_wr D a i.toNatClampNeg x) (a := a) rfl (by rw [am_cell_1 hk.1, am_wr_same]) (fun b hb => am_cell_congr rfl rfl (fun _ => rfl) (am_wr_ne hb))] at hP1
      exact hP1
    · cases h
  case bastore =>
    replace h := am_q_inv h
    obtain ⟨rfl, h⟩ := h
    split at h
    · rename_i x i a t
      obtain ⟨hk, h⟩ := am_if_n h
      have ha := am_lt hw hk.1 (by omega)
      refine va_zast (D := Dg) hx hb hK hP hDD hV a 1 (am_cell_2 (q := q) (bs := bs) (D := D) hk.1 ▸ am_wld_get ha) rfl hk.2.1 hd (fun H1 locs1 hP1 hD1 hV1 => ?_)
      refine ih _ _ _ _ _ (am_is h) H1 locs1 als ⟨?_, hV1, hw, hn0, hs0⟩ hl
      rw [show vp_nar .boolean x = x by rcases hk.2.2 with rfl | rfl <;> rfl] at hP1
      rw [am_wld_set (S := S) (S' := S) (D := D) (D' := am_wr D a i.toNatClampNeg x) (a := a) rfl (by rw [am_cell_2 hk.1, am_wr_same]) (fun b hb => am_cell_congr rfl rfl (fun _ => rfl) (am_wr_ne hb))] at hP1
      exact hP1
    · cases h
  case aastore =>
    replace h := am_q_inv h
    obtain ⟨rfl, h⟩ := h
    split at h
    · rename_i b i a t
      obtain ⟨hk, h⟩ := am_if_n h
      have ha := am_lt hw hk.1 (by omega)
      have hb2 := am_lt hw hk.2.1 (by omega)
      refine va_astq (D := Dg) (r := (RX3, TX3, 16)) hx hb hK hP hDD hV a 2 b 3 (am_cell_3 (q := q) (bs := bs) (D := D) hk.1 ▸ am_wld_get ha) rfl (am_cell_obj (ci := 3) (q := q) (bs := bs) (D := D) hk.2.1 ▸ am_wld_get hb2) rfl hk.2.2 hd (fun H1 locs1 hP1 hD1 hV1 => ?_)
      refine ih _ _ _ _ _ (am_is h) H1 locs1 als ⟨?_, hV1, hw, hn0, hs0⟩ hl
      rw [am_wld_set (S := S) (S' := am_wf S a i.toNatClampNeg (some b)) (D := D) (D' := D) (a := a) rfl ?_ (fun b2 hb2 => am_cell_congr rfl rfl (fun i => by simp [am_rf, am_wf, hb2]) rfl)] at hP1
      · exact hP1
      · rw [am_cell_3 (S := am_wf S a i.toNatClampNeg (some b)) hk.1]
        have e9 : (fun j => (am_rf (am_wf S a i.toNatClampNeg (some b)) a j).map (bs + ·)) = va_up (fun j => (am_rf S a j).map (bs + ·)) i.toNatClampNeg (some (bs + b)) := by
          funext j
          by_cases hj : j = i.toNatClampNeg
          · subst hj; simp [am_rf, am_wf, va_up]
          · simp [am_rf, am_wf, va_up, hj]
        rw [e9]
        rfl
    · cases h
  case arraylength =>
    replace h := am_q_inv h
    obtain ⟨rfl, h⟩ := h
    replace h := am_r1_inv h
    obtain ⟨a, t, rfl, h⟩ := h
    obtain ⟨hk, h⟩ := am_if_n h
    have ha := am_lt hw hk (by omega)
    exact va_alen (D := Dg) (x := (am_ln S a, .inl (D a))) (v := nI (am_ln S a)) hx hb hK hP a 0 (am_cell_1 (q := q) (bs := bs) (D := D) hk ▸ am_wld_get ha) rfl rfl hd (ih _ _ _ _ _ (am_is h) H locs als ⟨hP, hV, hw, hn0, hs0⟩ hl)
  all_goals exact he.elim
end
