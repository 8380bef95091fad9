theorem vr_outer (c : ClassId) (N h0 : Nat) : ∀ i : Nat, Jvm.Free.Multi.outerC c N h0 i = arrV c N (fun j => va_rf (if j < i then some (h0 + 1 + j) else none))
  | 0 => by
    show ({ cls := c, slots := Array.replicate N .null, vm := .none } : Cell) = _
    rw [arrV_new]
    refine congrArg (arrV c N) (funext fun j => ?_)
    simp [va_rf]
  | i + 1 => by
    show (Jvm.Free.Multi.outerC c N h0 i).setSlot i (.ref (h0 + 1 + i)) = _
    rw [vr_outer c N h0 i, arrV_store]
    refine congrArg (arrV c N) (funext fun j => ?_)
    by_cases e : j = i
    · subst e
      simp [updV, va_rf]
    · by_cases h : j < i
      · simp [updV, e, h, Nat.lt_succ_of_lt h]
      · simp [updV, e, h, show ¬ j < i + 1 by omega]
theorem am_inner (c : ClassId) (k : Nat) : Jvm.Free.Multi.innerC c k (.int 0) = vp_cell c (k, .inl fun _ => 0) := by
  show ({ cls := c, slots := Array.replicate k (.int 0), vm := .none } : Cell) = _
  rw [arrV_new]
  rfl
section
variable {p : Program} {l : Launch} {e : Env} {R : Room} {s : State} {m : MethodId} {args : Array Value} {below : List Frame} {meth : Method} {c : Code} {Q : State → Prop} {bs : Nat} {q : am_Q} {Dg : va_G} {own nL nx0 sl0 : Nat} {cc : ByteArray}
set_option maxHeartbeats 4000000 in
theorem am_multi_snd {cal : am_C} {idx dm len pc : Nat} {ls st : List Value} {S : am_S} {D : am_D} {x9 : am_X} (C : am_Cx p s m args meth c own cc nL Dg q bs nx0) (hcap : ∀ pc ls st S D, x9 = .inr (pc, ls, st, S, D) → am_nx S ≤ nx0 + R.cells ∧ am_sl S ≤ sl0 + R.slots) (hd : decode cc pc = .ok (.multianewarray idx dm, len)) (h : am_nxt cal own (.multianewarray idx dm) len pc ls st S D = some x9)
    (ih : ∀ pc ls st S D, x9 = .inr (pc, ls, st, S, D) → am_W p l e R s m args below meth c Q bs q Dg nL nx0 sl0 pc ls st S D) : am_W p l e R s m args below meth c Q bs q Dg nL nx0 sl0 pc ls st S D := by
  obtain ⟨hx, hb, hml, hown, hts, hK, hxt, hbs, hini⟩ := C
  intro H locs als hS hl
  obtain ⟨hP, hV, hw, hn0, hs0⟩ := hS
  have hdm : dm = 2 := by
    by_cases e2 : dm = 2
    · exact e2
    · exfalso
      unfold am_nxt at h
      split at h <;> first | (rename_i e9; cases e9; exact e2 rfl) | cases h | (rename_i e9; cases e9)
  subst hdm
  replace h := am_q_inv h
  obtain ⟨rfl, h⟩ := h
  replace h := am_i2_inv h
  obtain ⟨k, n, t, rfl, h⟩ := h
  replace h := am_if_n h
  obtain ⟨⟨hown6, hidx, hn, hk, hN, hKk⟩, h⟩ := h
  subst hown6
  subst hidx
  have hcp := hcap _ _ _ _ _ (am_is h)
  generalize hN9 : n.toNatClampNeg = N9 at *
  generalize hK9 : k.toNatClampNeg = K9 at *
  have hnn : am_nx (am_mw S N9 K9) = am_nx S + 1 + N9 := rfl
  have hss : am_sl (am_mw S N9 K9) = am_sl S + N9 + N9 * K9 := rfl
  refine am_size hbs (by omega) hP fun hsz => ?_
  intro T hT X
  obtain ⟨vm₁, cA, comp, hW1, fA, fC, hO, hI, X', step⟩ := X.multianewarray2F hx (own := RX6) (index := 18) (ty := .int) hown (hts (Cond.classLink RX6 18 "[[I") (am_tw_of am_t_cl rfl)) hxt.2.2 (hts (Cond.arrayClass .int) (am_tw_of am_t_ai rfl)) (g := F0 m pc als (.int k :: .int n :: t.map (am_sv bs))) rfl (by rw [hb]; exact hd) rfl hn hk (by rw [hN9]; omega) (by rw [hK9]; show K9 * 4 ≤ _; omega) (by rw [hK9]; omega) rfl rfl (by rw [hN9]; omega) (by rw [hN9, hK9]; omega)
  rw [hN9, hK9] at X' step
  have e1 : cA = q.2.2.2 := by
    have a2 : s.vm.findClass ("[" ++ (FieldType.array .int).toString) = some q.2.2.2 := (hK.2 3 _ rfl).2
    exact Option.some.inj (fA.symm.trans a2)
  have e2 : comp = q.1 := by
    have a2 : s.vm.findClass ("[" ++ FieldType.int.toString) = some q.1 := (hK.2 0 _ rfl).2
    exact Option.some.inj (fC.symm.trans a2)
  subst e1
  subst e2
  generalize hF : Jvm.Free.Multi.fill (T.setVm vm₁) q.2.2.2 q.1 N9 K9 (defaultValue .int) N9 = F at X' step
  have hTh : (T.setVm vm₁).heap = H := hT
  obtain ⟨f1, f2, -, -⟩ := Jvm.Free.Multi.fill_facts (T.setVm vm₁) q.2.2.2 q.1 N9 K9 (defaultValue .int) N9
  rw [hF, hTh] at f1 f2
  have hold : ∀ x : Nat, x < H.size → F.heap[x]? = H[x]? := fun x hx => by
    have := Jvm.Free.Multi.fill_old (T.setVm vm₁) q.2.2.2 q.1 N9 K9 (defaultValue .int) (a := x) (by rw [hTh]; exact hx) N9
    rw [hF, hTh] at this
    exact this
  have hrow : ∀ j : Nat, j < N9 → F.heap[H.size + 1 + j]? = some (vp_cell q.1 (K9, .inl fun _ => 0)) := fun j hj => by
    have := Jvm.Free.Multi.fill_inner (T.setVm vm₁) q.2.2.2 q.1 N9 K9 (defaultValue .int) N9 j hj
    rw [hF, hTh] at this
    rw [← am_inner]
    exact this
  rw [vr_outer] at f2
  have hP1 : va_P Dg vwCl (am_wld q bs (am_mw S N9 K9) (am_zs D (am_nx S) (1 + N9))) F.heap := by
    intro a z hz
    obtain ⟨ha, rfl⟩ := am_wld_at hz
    rw [hnn] at ha
    rcases Nat.lt_trichotomy a (am_nx S) with h1 | h1 | h1
    · have hc : am_cell q bs (am_mw S N9 K9) (am_zs D (am_nx S) (1 + N9)) a = am_cell q bs S D a := by
        apply am_cell_congr
        · show (if a = am_nx S then 4 else if am_nx S < a ∧ a < am_nx S + 1 + N9 then 1 else am_kd S a) = am_kd S a
          rw [if_neg (by omega), if_neg (by omega)]
        · show (if a = am_nx S then N9 else if am_nx S < a ∧ a < am_nx S + 1 + N9 then K9 else am_ln S a) = am_ln S a
          rw [if_neg (by omega), if_neg (by omega)]
        · intro i
          show (if a = am_nx S then _ else am_rf S a i) = am_rf S a i
          rw [if_neg (by omega)]
        · funext i
          show (if am_nx S ≤ a ∧ a < am_nx S + (1 + N9) then 0 else D a i) = D a i
          rw [if_neg (by omega)]
      rw [hc]
      exact (hP a _ (am_wld_get h1)).kept (hold _ (by show bs + a < _; omega))
    · subst h1
      have hkd : am_kd (am_mw S N9 K9) (am_nx S) = 4 := by
        show (if am_nx S = am_nx S then 4 else _) = 4
        rw [if_pos rfl]
      rw [am_cell_4 hkd]
      show F.heap[bs + am_nx S]? = some (vp_cell _ _)
      rw [← hsz, f2, vp_cell_q]
      have hln : am_ln (am_mw S N9 K9) (am_nx S) = N9 := by
        show (if am_nx S = am_nx S then N9 else _) = N9
        rw [if_pos rfl]
      rw [hln]
      refine congrArg some (congrArg (arrV _ _) (funext fun j => ?_))
      have hrf : am_rf (am_mw S N9 K9) (am_nx S) j = if j < N9 then some (am_nx S + 1 + j) else none := by
        show (if am_nx S = am_nx S then (if j < N9 then some (am_nx S + 1 + j) else none) else am_rf S (am_nx S) j) = _
        rw [if_pos rfl]
      rw [hrf]
      by_cases hj : j < N9
      · simp only [hj, if_true, Option.map_some]
        rw [hsz]
        show Value.ref (bs + am_nx S + 1 + j) = Value.ref (bs + (am_nx S + 1 + j))
        have e8 : bs + am_nx S + 1 + j = bs + (am_nx S + 1 + j) := by omega
        exact congrArg Value.ref e8
      · simp only [hj, if_false, Option.map_none]
    · have hkd : am_kd (am_mw S N9 K9) a = 1 := by
        show (if a = am_nx S then 4 else if am_nx S < a ∧ a < am_nx S + 1 + N9 then 1 else am_kd S a) = 1
        rw [if_neg (by omega), if_pos (by omega)]
      rw [am_cell_1 hkd]
      show F.heap[bs + a]? = some (vp_cell _ _)
      have hln : am_ln (am_mw S N9 K9) a = K9 := by
        show (if a = am_nx S then N9 else if am_nx S < a ∧ a < am_nx S + 1 + N9 then K9 else am_ln S a) = K9
        rw [if_neg (by omega), if_pos (by omega)]
      have hzz : am_zs D (am_nx S) (1 + N9) a = fun _ => 0 := by
        funext i
        show (if am_nx S ≤ a ∧ a < am_nx S + (1 + N9) then 0 else D a i) = 0
        rw [if_pos (by omega)]
      rw [hln, hzz, ← hrow (a - am_nx S - 1) (by omega)]
      congr 1
      omega
  have hw1 : am_wS (am_mw S N9 K9) := by
    intro a ha
    have ha : am_nx S + 1 + N9 ≤ a := ha
    show (if a = am_nx S then 4 else if am_nx S < a ∧ a < am_nx S + 1 + N9 then 1 else am_kd S a) = 0
    rw [if_neg (by omega), if_neg (by omega)]
    exact hw a (by omega)
  have hV1 : va_S (fun x => bs ≤ x) s.heap F.heap locs := ⟨by have := hV.1; omega, fun x h1 h2 => by rw [hold x (Nat.lt_of_lt_of_le h1 hV.1)]; exact hV.2.1 x h1 h2, hV.2.2⟩
  have hW := ih _ _ _ _ _ (am_is h) F.heap locs als ⟨hP1, hV1, hw1, by omega, by omega⟩ hl F rfl
  rw [show am_nx (am_mw S N9 K9) - nx0 = am_nx S - nx0 + 1 + N9 by omega, show am_sl (am_mw S N9 K9) - sl0 = am_sl S - sl0 + N9 + N9 * K9 by omega] at hW
  obtain ⟨t9, a1, b1⟩ := hW X'
  refine ⟨t9, step t9 ?_, b1⟩
  have e9 : T.heap.size = bs + am_nx S := by rw [hT]; exact hsz
  rw [e9]
  exact a1
end
