/-! ===== soundness: calls, returns; a method's contract ===== -/
theorem am_AA_moved {u U : State} (hvm : u.vm.Alike U.vm) (h : (Cond.arrayOver (.array .int)).before #[] u = true) : (Cond.arrayOver (.array .int)).before #[] U = true := over_moved hvm h
theorem am_xt.warm {u U : State} (hW : u.WarmedH U.vm) (h : am_xt u) : am_xt U := by
  refine ⟨fun w hw hn => ?_, va_AO.moved hW.alike h.2.1, am_AA_moved hW.alike h.2.2⟩
  have h1 := h.1 w hw hn
  cases w <;> first | exact va_Nw.warmM hW h1 | cases hn
theorem am_xt.calling {U : State} (g : JFrame) (mk : MethodId) (a : Array Value) (h : am_xt U) : am_xt (U.calling g mk a) := by
  refine ⟨fun w hw hn => ?_, va_AO.moved (Vm.Alike.refl U.vm) h.2.1, am_AA_moved (Vm.Alike.refl U.vm) h.2.2⟩
  have h1 := h.1 w hw hn
  cases w <;> first | exact va_Nw.same rfl rfl h1 | cases hn
/-- a method's end -/
def am_Qc (bs : Nat) (q : am_Q) (Dg : va_G) (r : am_R) : Array Value → State → Outcome → State → Prop := fun _ st oc t => oc = .returned (r.1.map (am_sv bs)) ∧ va_P Dg vwCl (am_wld q bs r.2.1 r.2.2) t.heap ∧ am_wS r.2.1 ∧ va_F (fun x => bs ≤ x) st t
def am_Pc (bs : Nat) (q : am_Q) (Dg : va_G) (args : List Value) (S : am_S) (D : am_D) : Array Value → State → Prop := fun v U => v = (args.map (am_sv bs)).toArray ∧ U.heap.size = bs + am_nx S ∧ va_P Dg vwCl (am_wld q bs S D) U.heap ∧ va_K Dg vwCl (am_tys q) U ∧ am_xt U
def am_room (d mc ms : Nat) : Room := { frames := d, cells := mc, slots := ms, locals := 33 * d }
/-- what the abstract machine says of depth d, the real one does -/
def am_met (l : Launch) (d : Nat) : Prop := ∀ (bs : Nat) (q : am_Q) (Dg : va_G) (j : Nat) (args : List Value) (S : am_S) (D : am_D) (r : am_R) (M : MethodName × ByteArray × Nat × Option FieldType × Nat × Nat × Nat × Nat × Nat), am_sem d j args S D = some r → am_M[j]? = some M → am_wS S →
  Met l M.1 (Cond.code M.1 M.2.1 M.2.2.1 M.2.2.2.1 :: am_tw) (am_room d M.2.2.2.2.2.2.2.1 M.2.2.2.2.2.2.2.2) (am_Pc bs q Dg args S D) (am_Qc bs q Dg r) M.2.2.2.2.2.2.2.1 M.2.2.2.2.2.2.2.2 (fun x => bs ≤ x)
theorem am_zip {α β : Type} {l1 : List α} {l2 : List β} {j : Nat} {x : α} (hl : l1.length = l2.length) (h : l1[j]? = some x) : ∃ y, (x, y) ∈ l1.zip l2 := by
  have hj := (List.getElem?_eq_some_iff.mp h).1
  have h2 : l2[j]? = some (l2[j]'(by omega)) := List.getElem?_eq_getElem (by omega)
  exact ⟨_, List.mem_of_getElem? (i := j) (List.getElem?_zip_eq_some.mpr ⟨h, h2⟩)⟩
theorem am_M_at {j : Nat} {M : MethodName × ByteArray × Nat × Option FieldType × Nat × Nat × Nat × Nat × Nat} (h : am_M[j]? = some M) :
    Cond.code M.1 M.2.1 M.2.2.1 M.2.2.2.1 ∈ lw_tbl ∧ Cond.initialized M.1.cls ∈ lw_tbl ∧ ((M.2.2.2.2.2.1 = 0 ∧ Cond.static M.1 ∈ lw_tbl) ∨ (M.2.2.2.2.2.1 = 1 ∧ Cond.instanceMethod M.1 ∈ lw_tbl ∧ Cond.selects M.1.cls M.1 M.1 ∈ lw_tbl) ∨ (M.2.2.2.2.2.1 = 2 ∧ Cond.instanceMethod M.1 ∈ lw_tbl ∧ M.1.name = "<init>")) ∧
    M.1.cls = am_rn M.2.2.2.2.1 ∧ (parseMethodDescriptor M.1.desc).map (fun d => d.parameters.length) = some (if M.2.2.2.2.2.1 = 0 then M.2.2.2.2.2.2.1 else M.2.2.2.2.2.2.1 - 1) ∧ M.2.2.1 ≤ 14 ∧ M.2.2.2.2.1 < 14 ∧ (M.2.2.2.2.2.1 = 0 ∨ (1 ≤ M.2.2.2.2.2.2.1 ∧ M.2.2.2.2.1 < 11)) ∧ plainName M.1.cls = true := by
  obtain ⟨y, hy⟩ := am_zip am_M_len h
  have h1 := List.all_eq_true.mp am_M_ok _ hy
  have hc := am_M_code M (List.mem_of_getElem? h)
  unfold am_mok at h1
  simp only [Bool.and_eq_true, Bool.or_eq_true, decide_eq_true_eq] at h1
  obtain ⟨h2, h3, h4, h5, h6, h7, h8, h9⟩ := h1
  refine ⟨hc, List.mem_of_getElem? h2, ?_, h4, h5, h6, h7, h8, h9⟩
  rcases h3 with (⟨a, b⟩ | ⟨⟨a, b⟩, c⟩) | ⟨⟨a, b⟩, c⟩
  · exact Or.inl ⟨a, List.mem_of_getElem? b⟩
  · exact Or.inr (Or.inl ⟨a, List.mem_of_getElem? b, List.mem_of_getElem? c⟩)
  · exact Or.inr (Or.inr ⟨a, List.mem_of_getElem? b, c⟩)
/-- a link of the table -/
theorem am_lk_ok {own idx j z : Nat} {M : MethodName × ByteArray × Nat × Option FieldType × Nat × Nat × Nat × Nat × Nat} (h : am_lk own idx = some (j + 4, z)) (hM : am_M[j]? = some M) : (z = 0 ∧ Cond.methodLink (am_rn (own % 100)) idx M.1 ∈ lw_tbl) ∨ (z = 1 ∧ Cond.methodLinkNest (am_rn (own % 100)) idx M.1 "NewsShips" ∈ lw_tbl) := by
  obtain ⟨hi, hm⟩ := am_lu_mem h
  obtain ⟨k, hk⟩ := List.getElem?_of_mem hm
  obtain ⟨y, hy⟩ := am_zip am_lT_len hk
  have h1 := List.all_eq_true.mp am_lT_ok _ hy
  unfold am_lok1 at h1
  simp only [(am_key hi).1, (am_key hi).2] at h1
  match z, h1 with
  | 0, h1 =>
    simp only [hM, decide_eq_true_eq] at h1
    exact Or.inl ⟨rfl, List.mem_of_getElem? h1⟩
  | 1, h1 =>
    simp only [hM, decide_eq_true_eq] at h1
    exact Or.inr ⟨rfl, List.mem_of_getElem? h1⟩
  | z + 2, h1 => cases h1
theorem am_lk_c {own idx k : Nat} (h : am_lk own idx = some (k, 0)) (hk : k < 4) : Cond.methodLink (am_rn (own % 100)) idx (if k = 0 then objectInit else if k = 1 then arraycopyName else if k = 2 then Lib.Math.max.name else Lib.Math.min.name) ∈ lw_tbl := by
  obtain ⟨hi, hm⟩ := am_lu_mem h
  obtain ⟨n, hn⟩ := List.getElem?_of_mem hm
  obtain ⟨y, hy⟩ := am_zip am_lT_len hn
  have h1 := List.all_eq_true.mp am_lT_ok _ hy
  unfold am_lok1 at h1
  simp only [(am_key hi).1, (am_key hi).2] at h1
  match k, hk with
  | 0, _ => simp only [decide_eq_true_eq] at h1; exact List.mem_of_getElem? h1
  | 1, _ => simp only [decide_eq_true_eq] at h1; exact List.mem_of_getElem? h1
  | 2, _ => simp only [decide_eq_true_eq] at h1; exact List.mem_of_getElem? h1
  | 3, _ => simp only [decide_eq_true_eq] at h1; exact List.mem_of_getElem? h1
section
variable {p : Program} {l : Launch} {e : Env} {R : Room} {s : State} {m : MethodId} {args : Array Value} {below : List Frame} {meth : Method} {c : Code} {Q : State → Prop} {bs : Nat} {q : am_Q} {Dg : va_G} {own nL nx0 sl0 : Nat} {cc : ByteArray}
/-- behind a call -/
theorem am_callG {H : Heap} {locs : List Loc} {cells slots mc ms pc : Nat} {als : Array Slot} {st0 rest : List Value} {av : Array Value} {r : am_R} (hr : va_Run p l e R s m args below meth c H locs cells slots mc ms (F0 m pc als st0) rest (am_Qc bs q Dg r av) (fun x => bs ≤ x)) (hS : va_S (fun x => bs ≤ x) s.heap H locs)
    (kk : ∀ (H1 : Heap) (locs1 : List Loc), va_P Dg vwCl (am_wld q bs r.2.1 r.2.2) H1 → am_wS r.2.1 → va_S (fun x => bs ≤ x) s.heap H1 locs1 → W p l e R s m args below meth c H1 locs1 (cells + mc) (slots + ms) Q (F0 m (pc + 3) als ((r.1.map (am_sv bs)).toList ++ rest))) : W p l e R s m args below meth c H locs cells slots Q (F0 m pc als st0) := by
  intro T hT X
  obtain ⟨v, st₀, t, T', L, h0, X', hL, e1, e2, ⟨hv, hp, hw, hz, hk⟩, st⟩ := hr T hT X
  cases hv
  rw [h0] at hz hk
  obtain ⟨t2, a1, b1⟩ := kk T'.heap (locs ++ L) (by rw [e1]; exact hp) hw
    ⟨Nat.le_trans hS.1 (by rw [e1]; exact hz), fun x h1 h2 => by rw [e1, hk x (Nat.lt_of_lt_of_le h1 hS.1) h2]; exact hS.2.1 x h1 h2, fun x hx => by
      rcases List.mem_append.mp hx with h | h
      · exact hS.2.2 x h
      · exact hL x h⟩ T' rfl X'
  exact ⟨t2, st t2 a1, b1⟩
theorem am_catsum {st : List Value} (h : st.length ≤ 4) : ((st.map (am_sv bs)).map fun v => v.category).sum ≤ 8 := by
  have h1 : ∀ l : List Value, ((l.map (am_sv bs)).map fun v => v.category).sum ≤ 2 * l.length := by
    intro l
    induction l with
    | nil => simp
    | cons v l ih =>
      simp only [List.map_cons, List.sum_cons, List.length_cons]
      have := lv_cat (am_sv bs v)
      omega
  have := h1 st
  omega
theorem am_M_v : am_M.all (fun M => decide (M.2.2.2.2.2.1 = 2 → M.2.2.2.1 = none)) = true := by decide +kernel
theorem am_goodIn {y : MethodName} {b : ByteArray} {n : Nat} {rt : Option FieldType} (h : Cond.code y b n rt ∈ lw_tbl) : GoodIn am_tw (Cond.code y b n rt :: am_tw) := by
  intro w hw
  rcases List.mem_cons.mp hw with rfl | hw
  · exact ⟨am_tw_of h rfl, good_of_word rfl⟩
  · exact ⟨hw, good_of_word (List.mem_filter.mp hw).2⟩
theorem am_Pc_blind {args : List Value} {S : am_S} {D : am_D} : FrameBlind (am_Pc bs q Dg args S D) := fun a U g mk h => ⟨h.1, h.2.1, h.2.2.1, va_K.moved (u := U) (U := U.calling g mk a) (Vm.Alike.refl U.vm) h.2.2.2.1, h.2.2.2.2.calling g mk a⟩
set_option maxHeartbeats 4000000 in
theorem am_call_snd {d kind j pc idx z : Nat} {ls st : List Value} {S : am_S} {D : am_D} {x9 : am_X} (IH : am_met l d) (C : am_Cx p s m args meth c own cc nL Dg q bs nx0) (hR : d + 1 ≤ R.frames ∧ 33 * (d + 1) ≤ R.locals) (hcap : ∀ pc ls st S D, x9 = .inr (pc, ls, st, S, D) → am_nx S ≤ nx0 + R.cells ∧ am_sl S ≤ sl0 + R.slots)
    (hd : decode cc pc = .ok (if kind = 0 then .invokestatic idx else if kind = 1 then .invokevirtual idx else .invokespecial idx, 3)) (hlk : am_lk own idx = some (j + 4, z)) (hz : kind = 1 → z = 0) (h : am_call (am_sem d) kind j pc ls st S D = some x9)
    (ih : ∀ pc ls st S D, x9 = .inr (pc, ls, st, S, D) → am_W p l e R s m args below meth c Q bs q Dg nL nx0 sl0 pc ls st S D) : am_W p l e R s m args below meth c Q bs q Dg nL nx0 sl0 pc ls st S D := by
  obtain ⟨hx, hb, hml, hown, hts, hK, hxt, hbs, hini⟩ := C
  intro H locs als hS hl
  obtain ⟨hP, hV, hw, hn0, hs0⟩ := hS
  unfold am_call at h
  cases hM : am_M[j]? with
  | none => rw [hM] at h; cases h
  | some M =>
    rw [hM] at h
    simp only at h
    obtain ⟨⟨hk, hna, hrl, hrec⟩, h⟩ := am_if_n h
    cases hc : am_sem d j (st.take M.2.2.2.2.2.2.1).reverse S D with
    | none => rw [hc] at h; cases h
    | some r1 =>
      rw [hc] at h
      simp only at h
      obtain ⟨d', M', -, hM', hl1, hl2, hnx, hsl, hokr, -⟩ := am_sem_inv hc
      rw [hM] at hM'
      cases hM'
      obtain ⟨m1, m2, m3, m4, m5, m6, m7, m8, m9⟩ := am_M_at hM
      have hmo := hcap _ _ _ _ _ (am_is h)
      have hMet := IH bs q Dg j _ S D r1 M hc hM hw
      refine am_size hbs (by omega) hP fun hsz => ?_
      have hkk : ∀ (H1 : Heap) (locs1 : List Loc), va_P Dg vwCl (am_wld q bs r1.2.1 r1.2.2) H1 → am_wS r1.2.1 → va_S (fun x => bs ≤ x) s.heap H1 locs1 → W p l e R s m args below meth c H1 locs1 (am_nx S - nx0 + M.2.2.2.2.2.2.2.1) (am_sl S - sl0 + M.2.2.2.2.2.2.2.2) Q (F0 m (pc + 3) als ((r1.1.map (am_sv bs)).toList ++ (st.drop M.2.2.2.2.2.2.1).map (am_sv bs))) := by
        intro H1 locs1 hP1 hw1 hV1
        have hW := ih _ _ _ _ _ (am_is h) H1 locs1 als ⟨hP1, hV1, hw1, by omega, by omega⟩ hl
        rw [show am_nx S - nx0 + M.2.2.2.2.2.2.2.1 = am_nx r1.2.1 - nx0 by omega, show am_sl S - sl0 + M.2.2.2.2.2.2.2.2 = am_sl r1.2.1 - sl0 by omega]
        rw [List.map_append] at hW
        rw [show (r1.1.map (am_sv bs)).toList = r1.1.toList.map (am_sv bs) by cases r1.1 <;> rfl]
        exact hW
      have hpc : ∀ U : State, U.heap = H → s.WarmedH U.vm → am_Pc bs q Dg (st.take M.2.2.2.2.2.2.1).reverse S D ((st.take M.2.2.2.2.2.2.1).reverse.map (am_sv bs)).toArray U := fun U hU hW => ⟨rfl, by rw [hU]; exact hsz, by rw [hU]; exact hP, va_K.moved hW.alike hK, hxt.warm hW⟩
      have hcells : am_nx S - nx0 + M.2.2.2.2.2.2.2.1 ≤ R.cells ∧ am_sl S - sl0 + M.2.2.2.2.2.2.2.2 ≤ R.slots := by constructor <;> omega
      have hroom : (am_room d M.2.2.2.2.2.2.2.1 M.2.2.2.2.2.2.2.2).frames + 1 ≤ R.frames ∧ 8 + (M.2.2.1 + 11) + (am_room d M.2.2.2.2.2.2.2.1 M.2.2.2.2.2.2.2.2).locals ≤ R.locals := by
        constructor
        · exact hR.1
        · show 8 + (M.2.2.1 + 11) + 33 * d ≤ R.locals
          have := hR.2
          omega
      have hstk : st.map (am_sv bs) = ((st.take M.2.2.2.2.2.2.1).reverse.map (am_sv bs)).reverse ++ (st.drop M.2.2.2.2.2.2.1).map (am_sv bs) := by
        rw [← List.map_reverse, List.reverse_reverse, ← List.map_append, List.take_append_drop]
      have hmh : M.1.cls ≠ "java/lang/invoke/MethodHandle" ∧ M.1.cls ≠ "java/lang/invoke/VarHandle" := by
        rw [m4]
        have : ∀ k, k < 14 → am_rn k ≠ "java/lang/invoke/MethodHandle" ∧ am_rn k ≠ "java/lang/invoke/VarHandle" := by decide +kernel
        exact this _ m7
      have hlen : (st.take M.2.2.2.2.2.2.1).length = M.2.2.2.2.2.2.1 := by rw [List.length_take]; omega
      have hfix : CallFix p m c cc nL s args am_tw (am_rn (own % 100)) := ⟨hx, hb, hml, hown, hts⟩
      rcases m3 with ⟨k0, w1⟩ | ⟨k0, w1, w2⟩ | ⟨k0, w1, w2⟩
      · -- static
        have hk0 : kind = 0 := by omega
        subst hk0
        rw [if_pos k0] at m5
        simp only [if_true] at hd
        rw [hstk]
        rcases am_lk_ok hlk hM with ⟨z0, w3⟩ | ⟨z0, w3⟩
        · exact am_callG (va_runS (As := (st.take M.2.2.2.2.2.2.1).reverse.map (am_sv bs)) (rest := (st.drop M.2.2.2.2.2.2.1).map (am_sv bs)) (n := M.2.2.2.2.2.2.1) hfix hMet ⟨callB_of _ hts (am_goodIn m1) rfl rfl rfl (hts _ (am_tw_of m2 rfl)) (hts _ (am_tw_of w3 rfl)) ⟨hmh.1, hmh.2, m5⟩ hroom, hts _ (am_tw_of w1 rfl)⟩ ⟨am_Pc_blind, hpc⟩ rfl (by rw [List.length_map, List.length_reverse]; exact hlen) hl.1 rfl (lv_room (am_catsum hrl)) hd hcells) hV hkk
        · exact am_callG (va_runSN (As := (st.take M.2.2.2.2.2.2.1).reverse.map (am_sv bs)) (rest := (st.drop M.2.2.2.2.2.2.1).map (am_sv bs)) (n := M.2.2.2.2.2.2.1) hfix hMet ⟨va_cnB _ hts (am_goodIn m1) rfl rfl rfl (hxt.1 _ w3 rfl) (hts _ (am_tw_of m2 rfl)) ⟨hmh.1, hmh.2, m5⟩ hroom, hts _ (am_tw_of w1 rfl), trivial⟩ ⟨am_Pc_blind, hpc⟩ rfl (by rw [List.length_map, List.length_reverse]; exact hlen) hl.1 rfl (lv_room (am_catsum hrl)) hd hcells) hV hkk
      · -- instance
        have hk1 : kind = 1 := by omega
        subst hk1
        obtain ⟨a, ha, hka⟩ : ∃ a, (st.take M.2.2.2.2.2.2.1).reverse.head? = some (.ref a) ∧ am_kd S a = M.2.2.2.2.1 + 5 := by
          rcases hrec with h0 | h0
          · cases h0
          · exact h0
        have hcl : M.2.2.2.2.1 < 11 := by
          rcases m8 with h0 | h0
          · omega
          · exact h0.2
        have hna1 : 1 ≤ M.2.2.2.2.2.2.1 := by
          rcases m8 with h0 | h0
          · omega
          · exact h0.1
        have hz0 := hz rfl
        rw [if_neg (by omega)] at m5
        simp only [if_neg (show ¬ (1 = 0) by omega), if_true] at hd
        obtain ⟨As, hAs⟩ : ∃ As, (st.take M.2.2.2.2.2.2.1).reverse = .ref a :: As := by
          cases hh : (st.take M.2.2.2.2.2.2.1).reverse with
          | nil => rw [hh] at ha; cases ha
          | cons v As =>
            rw [hh] at ha
            cases ha
            exact ⟨As, rfl⟩
        have hAl : As.length = M.2.2.2.2.2.2.1 - 1 := by
          have := congrArg List.length hAs
          rw [List.length_reverse, hlen, List.length_cons] at this
          omega
        rw [hAs] at hstk hpc hMet
        rw [hstk]
        obtain ⟨cq, hcq⟩ : ∃ x, vwCl[M.2.2.2.2.1]? = some x := ⟨_, List.getElem?_eq_getElem (show M.2.2.2.2.1 < vwCl.length from hcl)⟩
        have hcn : cq.1 = M.1.cls := by rw [m4]; exact (am_cls (ci := M.2.2.2.2.1) (C := cq.1) (T := cq.2.1) (N := cq.2.2) hcq).2.2.1
        have hrecv := va_recv hK hP hcq (am_cell_obj (q := q) (bs := bs) (D := D) hka ▸ am_wld_get (am_lt hw hka (by omega)))
        rw [hcn] at hrecv
        rcases am_lk_ok hlk hM with ⟨z0, w3⟩ | ⟨z0, w3⟩
        · exact am_callG (va_runV (C := M.1.cls) (b := bs + a) (As := As.map (am_sv bs)) (rest := (st.drop M.2.2.2.2.2.2.1).map (am_sv bs)) (n := M.2.2.2.2.2.2.1 - 1) hfix hMet ⟨callB_of _ hts (am_goodIn m1) rfl rfl rfl (hts _ (am_tw_of m2 rfl)) (hts _ (am_tw_of w3 rfl)) ⟨hmh.1, hmh.2, m5⟩ hroom, hts _ (am_tw_of w1 rfl), hts _ (am_tw_of w2 rfl)⟩ ⟨am_Pc_blind, hrecv, hpc⟩ rfl (by rw [List.length_map]; exact hAl) hl.1 (by simp [am_sv]) (lv_room (am_catsum hrl)) hd hcells) hV hkk
        · omega
      · -- constructor
        have hk2 : kind = 2 := by omega
        subst hk2
        obtain ⟨a, ha, hka⟩ : ∃ a, (st.take M.2.2.2.2.2.2.1).reverse.head? = some (.ref a) ∧ am_kd S a = M.2.2.2.2.1 + 5 := by
          rcases hrec with h0 | h0
          · cases h0
          · exact h0
        have hna1 : 1 ≤ M.2.2.2.2.2.2.1 := by
          rcases m8 with h0 | h0
          · omega
          · exact h0.1
        rw [if_neg (by omega)] at m5
        simp only [if_neg (show ¬ (2 = 0) by omega), if_neg (show ¬ (2 = 1) by omega)] at hd
        obtain ⟨As, hAs⟩ : ∃ As, (st.take M.2.2.2.2.2.2.1).reverse = .ref a :: As := by
          cases hh : (st.take M.2.2.2.2.2.2.1).reverse with
          | nil => rw [hh] at ha; cases ha
          | cons v As =>
            rw [hh] at ha
            cases ha
            exact ⟨As, rfl⟩
        have hAl : As.length = M.2.2.2.2.2.2.1 - 1 := by
          have := congrArg List.length hAs
          rw [List.length_reverse, hlen, List.length_cons] at this
          omega
        rw [hAs] at hstk hpc hMet
        rw [hstk]
        have hvo : M.2.2.2.1 = none := by
          have h9 := List.all_eq_true.mp am_M_v M (List.mem_of_getElem? hM)
          simp only [decide_eq_true_eq] at h9
          exact h9 k0
        rw [hvo] at hMet m1
        rcases am_lk_ok hlk hM with ⟨z0, w3⟩ | ⟨z0, w3⟩
        · exact am_callG (va_runI (b := bs + a) (As := As.map (am_sv bs)) (rest := (st.drop M.2.2.2.2.2.2.1).map (am_sv bs)) (n := M.2.2.2.2.2.2.1 - 1) hfix hMet ⟨callB_of _ hts (am_goodIn m1) rfl rfl rfl (hts _ (am_tw_of m2 rfl)) (hts _ (am_tw_of w3 rfl)) ⟨hmh.1, hmh.2, m5⟩ hroom, w2, hts _ (am_tw_of w1 rfl)⟩ ⟨am_Pc_blind, hpc⟩ rfl (by rw [List.length_map]; exact hAl) hl.1 (by simp [am_sv]) (lv_room (am_catsum hrl)) hd hcells) hV hkk
        · exact am_callG (va_runIN (b := bs + a) (As := As.map (am_sv bs)) (rest := (st.drop M.2.2.2.2.2.2.1).map (am_sv bs)) (n := M.2.2.2.2.2.2.1 - 1) hfix hMet ⟨va_cnB _ hts (am_goodIn m1) rfl rfl rfl (hxt.1 _ w3 rfl) (hts _ (am_tw_of m2 rfl)) ⟨hmh.1, hmh.2, m5⟩ hroom, w2, hts _ (am_tw_of w1 rfl)⟩ ⟨am_Pc_blind, hpc⟩ rfl (by rw [List.length_map]; exact hAl) hl.1 (by simp [am_sv]) (lv_room (am_catsum hrl)) hd hcells) hV hkk
end
