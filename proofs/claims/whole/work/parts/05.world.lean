/-! ===== the real machine's cells for a shape and data; the locals ===== -/
def am_sv (bs : Nat) (v : Value) : Value := match v with
  | .ref a => .ref (bs + a)
  | v => v
abbrev am_Q : Type := ClassId × ClassId × ClassId × ClassId
def am_cell (q : am_Q) (bs : Nat) (S : am_S) (D : am_D) (a : Nat) : va_E := match am_kd S a with
  | 0 => .inl (q.1, 0, .inl fun _ => 0)
  | 1 => .inl (q.1, am_ln S a, .inl (D a))
  | 2 => .inl (q.2.1, am_ln S a, .inl (D a))
  | 3 => .inl (q.2.2.1, am_ln S a, .inr (.inr (.inr (.inr fun i => (am_rf S a i).map (bs + ·)))))
  | 4 => .inl (q.2.2.2, am_ln S a, .inr (.inr (.inr (.inr fun i => (am_rf S a i).map (bs + ·)))))
  | k + 5 => .inr (k, (List.range (am_nf k)).map fun i => am_sv bs (am_fv S D a i (am_st k i)))
def am_wld (q : am_Q) (bs : Nat) (S : am_S) (D : am_D) : va_W := (List.range (am_nx S)).map fun a => (bs + a, am_cell q bs S D a)
theorem am_wld_get {q : am_Q} {bs : Nat} {S : am_S} {D : am_D} {a : Nat} (h : a < am_nx S) : (am_wld q bs S D)[a]? = some (bs + a, am_cell q bs S D a) := by
  unfold am_wld
  rw [List.getElem?_map, List.getElem?_range h]
  rfl
theorem am_wld_at {q : am_Q} {bs : Nat} {S : am_S} {D : am_D} {k : Nat} {x : Nat × va_E} (h : (am_wld q bs S D)[k]? = some x) : k < am_nx S ∧ x = (bs + k, am_cell q bs S D k) := by
  have hl := (List.getElem?_eq_some_iff.mp h).1
  unfold am_wld at hl
  rw [List.length_map, List.length_range] at hl
  rw [am_wld_get hl] at h
  exact ⟨hl, (Option.some.inj h).symm⟩
theorem am_wld_D {q : am_Q} {bs : Nat} {S : am_S} {D : am_D} : va_D (fun x => bs ≤ x) (am_wld q bs S D) := by
  refine ⟨fun i j x y hi hj e => ?_, fun k x hk => ?_⟩
  · obtain ⟨-, rfl⟩ := am_wld_at hi
    obtain ⟨-, rfl⟩ := am_wld_at hj
    simp only at e
    omega
  · obtain ⟨-, rfl⟩ := am_wld_at hk
    show bs ≤ bs + k
    omega
/-- one cell changes -/
theorem am_wld_set {q : am_Q} {bs : Nat} {S S' : am_S} {D D' : am_D} {a : Nat} {e : va_E} (hn : am_nx S' = am_nx S) (he : am_cell q bs S' D' a = e) (ho : ∀ b, b ≠ a → am_cell q bs S' D' b = am_cell q bs S D b) : (am_wld q bs S D).set a (bs + a, e) = am_wld q bs S' D' := by
  apply List.ext_getElem?
  intro k
  by_cases hk : k < am_nx S
  · rw [am_wld_get (S := S') (D := D') (by rw [hn]; exact hk)]
    by_cases ha : k = a
    · subst ha
      rw [List.getElem?_set_self (by unfold am_wld; rw [List.length_map, List.length_range]; exact hk), he]
    · rw [List.getElem?_set_ne (Ne.symm ha), am_wld_get hk, ho k ha]
  · rw [List.getElem?_eq_none (by rw [List.length_set]; unfold am_wld; rw [List.length_map, List.length_range]; omega), List.getElem?_eq_none (by unfold am_wld; rw [List.length_map, List.length_range, hn]; omega)]
theorem am_wr_same {D : am_D} {a k : Nat} {x : Int32} : am_wr D a k x a = upd (D a) k x := by
  funext i
  unfold am_wr upd
  by_cases h : i = k <;> simp [h]
theorem am_wr_ne {D : am_D} {a k b : Nat} {x : Int32} (h : b ≠ a) : am_wr D a k x b = D b := by
  funext i
  unfold am_wr
  simp [h]
/-- the cell depends on its own row alone -/
theorem am_cell_congr {q : am_Q} {bs : Nat} {S S' : am_S} {D D' : am_D} {a : Nat} (h1 : am_kd S' a = am_kd S a) (h2 : am_ln S' a = am_ln S a) (h3 : ∀ i, am_rf S' a i = am_rf S a i) (h4 : D' a = D a) : am_cell q bs S' D' a = am_cell q bs S D a := by
  unfold am_cell am_fv
  rw [h1, h2, h4]
  simp only [h3]
def am_wS (S : am_S) : Prop := ∀ a, am_nx S ≤ a → am_kd S a = 0
theorem am_wS_lt {S : am_S} (h : am_wS S) {a k : Nat} (hk : am_kd S a = k + 1) : a < am_nx S := by
  rcases Nat.lt_or_ge a (am_nx S) with q | q
  · exact q
  · rw [h a q] at hk
    cases hk
/-- the locals -/
def am_lok (bs : Nat) (als : Array Slot) (nL : Nat) (ls : List Value) : Prop := als.size = nL ∧ lv_wf als ∧ ls.length = nL ∧ ∀ (i : Nat) (v : Value), ls[i]? = some v → (∀ n, v ≠ .retAddr n) → als[i]? = some (.val (am_sv bs v))
def am_lvs (bs : Nat) (ls : List Value) : List (Nat × Value) := (List.range ls.length).filterMap fun (j : Nat) => match (ls[j]? : Option Value) with
  | some (Value.retAddr _) => none
  | some v => some (j, am_sv bs v)
  | none => none
theorem am_lvs_mem {bs : Nat} {ls : List Value} {j : Nat} {w : Value} : (j, w) ∈ am_lvs bs ls ↔ ∃ v, ls[j]? = some v ∧ (∀ n, v ≠ .retAddr n) ∧ w = am_sv bs v := by
  unfold am_lvs
  rw [List.mem_filterMap]
  constructor
  · rintro ⟨k, hk, h⟩
    split at h
    · cases h
    · rename_i v h0 hv
      cases h
      exact ⟨v, hv, fun n e => h0 n e, rfl⟩
    · cases h
  · rintro ⟨v, hv, hn, rfl⟩
    refine ⟨j, List.mem_range.mpr (List.getElem?_eq_some_iff.mp hv).1, ?_⟩
    split
    · rename_i n h0
      rw [hv] at h0
      exact absurd (Option.some.inj h0) (hn n)
    · rename_i v' h0 hv'
      rw [hv] at hv'
      cases hv'
      rfl
    · rename_i h0
      rw [hv] at h0
      cases h0
theorem am_lok_has {bs : Nat} {als : Array Slot} {nL : Nat} {ls : List Value} (h : am_lok bs als nL ls) : lv_has als nL (am_lvs bs ls) := by
  refine ⟨h.1, h.2.1, fun x hx => ?_⟩
  obtain ⟨v, h1, h2, h3⟩ := am_lvs_mem.mp (show (x.1, x.2) ∈ am_lvs bs ls from hx)
  rw [h.2.2.2 _ v h1 h2, h3]
theorem am_sv_cat (bs : Nat) (v : Value) : (am_sv bs v).category = v.category := by cases v <;> rfl
theorem am_lok_st1 {bs : Nat} {als als' : Array Slot} {nL i : Nat} {ls : List Value} {v : Value} (h : am_lok bs als nL ls) (hs : am_so ls i) (h' : lv_has als' nL ((i, am_sv bs v) :: (am_lvs bs ls).filter (fun q => !(q.1 == i) && !(q.1 + 1 == i && q.2.category == 2)))) : am_lok bs als' nL (ls.set i v) := by
  refine ⟨h'.1, h'.2.1, by rw [List.length_set]; exact h.2.2.1, fun j w hj hn => ?_⟩
  by_cases e : j = i
  · subst e
    rw [List.getElem?_set_self hs.1] at hj
    cases hj
    exact h'.2.2 (j, am_sv bs v) List.mem_cons_self
  · rw [List.getElem?_set_ne (Ne.symm e)] at hj
    refine h'.2.2 (j, am_sv bs w) (List.mem_cons_of_mem _ (List.mem_filter.mpr ⟨am_lvs_mem.mpr ⟨w, hj, hn, rfl⟩, ?_⟩))
    simp only [Bool.and_eq_true, Bool.not_eq_true', beq_eq_false_iff_ne, Bool.and_eq_false_iff, ne_eq]
    refine ⟨e, ?_⟩
    by_cases e2 : j + 1 = i
    · right
      rw [am_sv_cat, hs.2 j w e2 hj]
      decide
    · left
      exact e2
theorem am_lok_st2 {bs : Nat} {als als' : Array Slot} {nL i : Nat} {ls : List Value} {v : Value} (h : am_lok bs als nL ls) (hs : am_so ls i) (hi : i + 1 < ls.length) (h' : lv_has als' nL ((i, am_sv bs v) :: (am_lvs bs ls).filter (fun q => !(q.1 == i) && (!(q.1 == i + 1) && !(q.1 + 1 == i && q.2.category == 2))))) : am_lok bs als' nL ((ls.set i v).set (i + 1) (.retAddr 0)) := by
  refine ⟨h'.1, h'.2.1, by rw [List.length_set, List.length_set]; exact h.2.2.1, fun j w hj hn => ?_⟩
  by_cases e1 : j = i + 1
  · subst e1
    rw [List.getElem?_set_self (by rw [List.length_set]; exact hi)] at hj
    cases hj
    exact absurd rfl (hn 0)
  rw [List.getElem?_set_ne (Ne.symm e1)] at hj
  by_cases e : j = i
  · subst e
    rw [List.getElem?_set_self hs.1] at hj
    cases hj
    exact h'.2.2 (j, am_sv bs v) List.mem_cons_self
  · rw [List.getElem?_set_ne (Ne.symm e)] at hj
    refine h'.2.2 (j, am_sv bs w) (List.mem_cons_of_mem _ (List.mem_filter.mpr ⟨am_lvs_mem.mpr ⟨w, hj, hn, rfl⟩, ?_⟩))
    simp only [Bool.and_eq_true, Bool.not_eq_true', beq_eq_false_iff_ne, Bool.and_eq_false_iff, ne_eq]
    refine ⟨e, e1, ?_⟩
    by_cases e2 : j + 1 = i
    · right
      rw [am_sv_cat, hs.2 j w e2 hj]
      decide
    · left
      exact e2
/-- the state of the walk -/
def am_St (bs : Nat) (q : am_Q) (Dg : va_G) (s : State) (nx0 sl0 : Nat) (S : am_S) (D : am_D) (H : Heap) (locs : List Loc) : Prop :=
  va_P Dg vwCl (am_wld q bs S D) H ∧ va_S (fun x => bs ≤ x) s.heap H locs ∧ am_wS S ∧ nx0 ≤ am_nx S ∧ sl0 ≤ am_sl S
def am_tys (q : am_Q) : List (ClassId × FieldType) := [(q.1, .int), (q.2.1, .boolean), (q.2.2.1, .object RX3), (q.2.2.2, .array .int)]
def am_rn (own : Nat) : String := [RX0, RX1, RX2, RX3, RX4, RX5, RX6, RX7, RX8, RX9, RX10, RJ6, RJ9, RJ7].getD own ""
/-- the words that go on holding -/
def am_tw : List Cond := lw_tbl.filter goodWord
theorem am_tw_of {w : Cond} (h : w ∈ lw_tbl) (hg : goodWord w = true) : w ∈ am_tw := List.mem_filter.mpr ⟨h, hg⟩
theorem am_lay_good {C : String} {T : u_T} {N : Nat} (h : ∀ w ∈ u_ws C T N, w ∈ lw_tbl) : ∀ w ∈ u_ws C T N, w ∈ am_tw := by
  intro w hw
  refine am_tw_of (h w hw) ?_
  obtain ⟨k, -, rfl⟩ := List.mem_map.mp hw
  unfold u_lay
  split <;> rfl
/-- words that are carried by hand: calls of private nest mates, arrays over a class -/
def am_nest (w : Cond) : Bool := match w with
  | .methodLinkNest _ _ _ _ => true
  | _ => false
def am_xt (U : State) : Prop := (∀ w ∈ lw_tbl, am_nest w = true → va_Nw w U) ∧ va_AO RX3 U ∧ (Cond.arrayOver (.array .int)).before #[] U = true
def am_Cx (p : Program) (s : State) (m : MethodId) (args : Array Value) (meth : Method) (c : Code) (own : Nat) (cc : ByteArray) (nL : Nat) (Dg : va_G) (q : am_Q) (bs nx0 : Nat) : Prop :=
  p.tables.exec = Jvm.exec ∧ c.code = cc ∧ c.maxLocals = nL ∧ s.vm.findClass (am_rn (own % 100)) = some m.cls ∧ (∀ w ∈ am_tw, w.before args s = true) ∧ va_K Dg vwCl (am_tys q) s ∧ am_xt s ∧ s.heap.size = bs + nx0 ∧ (100 ≤ own → meth.name = "<init>")
def am_W (p : Program) (l : Launch) (e : Env) (R : Room) (s : State) (m : MethodId) (args : Array Value) (below : List Frame) (meth : Method) (c : Code) (Q : State → Prop) (bs : Nat) (q : am_Q) (Dg : va_G) (nL nx0 sl0 : Nat) (pc : Nat) (ls st : List Value) (S : am_S) (D : am_D) : Prop :=
  ∀ (H : Heap) (locs : List Loc) (als : Array Slot), am_St bs q Dg s nx0 sl0 S D H locs → am_lok bs als nL ls → W p l e R s m args below meth c H locs (am_nx S - nx0) (am_sl S - sl0) Q (F0 m pc als (st.map (am_sv bs)))
/-- the heap's size is known: the machine tells how many cells are new -/
theorem am_size {p : Program} {l : Launch} {e : Env} {R : Room} {s : State} {m : MethodId} {args : Array Value} {below : List Frame} {meth : Method} {c : Code} {Q : State → Prop} {bs : Nat} {q : am_Q} {Dg : va_G} {nx0 n k : Nat} {S : am_S} {D : am_D} {H : Heap} {locs : List Loc} {g : JFrame} (hs : s.heap.size = bs + nx0) (hn : n + nx0 = am_nx S) (hP : va_P Dg vwCl (am_wld q bs S D) H)
    (kk : H.size = bs + am_nx S → W p l e R s m args below meth c H locs n k Q g) : W p l e R s m args below meth c H locs n k Q g := by
  intro T hT X
  refine kk ?_ T hT X
  have h1 : T.heap.size ≤ s.heap.size + n := X.same.2.2.1
  have h2 : s.heap.size ≤ T.heap.size := X.same.2.1
  rw [hT] at h1 h2
  have h3 : bs + am_nx S ≤ H.size := by
    by_cases h0 : am_nx S = 0
    · omega
    · have h4 := (hP (am_nx S - 1) _ (am_wld_get (by omega))).lt
      simp only at h4
      omega
  omega
