/-! ===== the law's walk: its own rows ===== -/
def lw_O : List (Nat × Nat) := [(176, 3), (219, 3), (262, 5), (325, 1), (348, 1), (371, 0), (384, 0), (397, 1), (420, 2), (453, 1), (476, 0), (489, 2), (522, 2), (555, 2), (588, 2), (621, 2), (654, 2), (687, 3), (730, 4), (783, 3), (826, 2), (859, 3), (902, 5), (965, 5), (1028, 1), (1051, 1), (1074, 1), (1097, 2), (1130, 2), (1163, 1), (1186, 1), (1209, 0)]
/-- script[i + k] is read at pc -/
abbrev lw_dA (pc k : Nat) : Prop := decode code pc = .ok (.aload_n 0, 1) ∧ decode code (pc + 1) = .ok (.iload_n 3, 1) ∧ decode code (pc + 2) = .ok (.iconst (k : Int), 1) ∧ decode code (pc + 3) = .ok (.iadd, 1) ∧ decode code (pc + 4) = .ok (.iaload, 1)
/-- a case of the law at pc: n arguments, both calls, the comparison -/
abbrev lw_D (pc n i1 i2 : Nat) : Prop := decode code pc = .ok (.aload_n 1, 1) ∧ (∀ t, t < n → lw_dA (pc + 1 + 5 * t) (1 + t)) ∧ decode code (pc + 1 + 5 * n) = .ok (.invokevirtual i1, 3) ∧ decode code (pc + 1 + 5 * n + 3) = .ok (.aload_n 2, 1) ∧ (∀ t, t < n → lw_dA (pc + 1 + 5 * n + 3 + 1 + 5 * t) (1 + t)) ∧ decode code (pc + 1 + 5 * n + 3 + 1 + 5 * n) = .ok (.invokevirtual i2, 3) ∧ decode code (pc + 1 + 5 * n + 3 + 1 + 5 * n + 3) = .ok (.if_icmp .eq (1222 - ((pc + 1 + 5 * n + 3 + 1 + 5 * n + 3 : Nat) : Int)), 3)
def lw_bA (pc k : Nat) : Bool := decide (decode code pc = .ok (.aload_n 0, 1)) && (decide (decode code (pc + 1) = .ok (.iload_n 3, 1)) && (decide (decode code (pc + 2) = .ok (.iconst (k : Int), 1)) && (decide (decode code (pc + 3) = .ok (.iadd, 1)) && decide (decode code (pc + 4) = .ok (.iaload, 1)))))
def lw_b (pc n i1 i2 : Nat) : Bool := decide (decode code pc = .ok (.aload_n 1, 1)) && ((List.range n).all (fun t => lw_bA (pc + 1 + 5 * t) (1 + t)) && (decide (decode code (pc + 1 + 5 * n) = .ok (.invokevirtual i1, 3)) && (decide (decode code (pc + 1 + 5 * n + 3) = .ok (.aload_n 2, 1)) && ((List.range n).all (fun t => lw_bA (pc + 1 + 5 * n + 3 + 1 + 5 * t) (1 + t)) && (decide (decode code (pc + 1 + 5 * n + 3 + 1 + 5 * n) = .ok (.invokevirtual i2, 3)) && decide (decode code (pc + 1 + 5 * n + 3 + 1 + 5 * n + 3) = .ok (.if_icmp .eq (1222 - ((pc + 1 + 5 * n + 3 + 1 + 5 * n + 3 : Nat) : Int)), 3)))))))
theorem lw_bA_D {pc k : Nat} (h : lw_bA pc k = true) : lw_dA pc k := by
  unfold lw_bA at h
  simp only [Bool.and_eq_true, decide_eq_true_eq] at h
  exact h
theorem lw_b_D {pc n i1 i2 : Nat} (h : lw_b pc n i1 i2 = true) : lw_D pc n i1 i2 := by
  unfold lw_b at h
  simp only [Bool.and_eq_true, decide_eq_true_eq, List.all_eq_true] at h
  obtain ⟨h1, h2, h3, h4, h5, h6, h7⟩ := h
  exact ⟨h1, fun t ht => lw_bA_D (h2 t (List.mem_range.mpr ht)), h3, h4, fun t ht => lw_bA_D (h5 t (List.mem_range.mpr ht)), h6, h7⟩
def lw_L (jc jm i1 i2 : Nat) : Prop := (∃ M, am_M[jc]? = some M ∧ M.2.2.2.2.2.1 = 1 ∧ M.2.2.2.2.1 = 9 ∧ Cond.methodLink R_law i1 M.1 ∈ lw_tbl) ∧ ∃ M, am_M[jm]? = some M ∧ M.2.2.2.2.2.1 = 1 ∧ M.2.2.2.2.1 = 10 ∧ Cond.methodLink R_law i2 M.1 ∈ lw_tbl
def lwA (xs : Nat → Int32) (j : Nat) : Nat → List Value
  | 0 => []
  | n + 1 => .int (xs j) :: lwA xs (j + 1) n
theorem i32x (x : Int32) : i32 x.toInt := ⟨Int32.le_toInt x, Int32.toInt_lt x⟩
def lw_Cx (p : Program) (s : State) (m : MethodId) (meth : Method) (c : Code) (b L : Nat) (xs : Nat → Int32) (q : am_Q) (Dg : va_G) : Prop := lw_At p s m meth c b L xs ∧ L ≤ 384 ∧ va_K Dg vwCl (am_tys q) s ∧ am_xt s
section
variable {p : Program} {l : Launch} {e : Env} {s : State} {m : MethodId} {below : List Frame} {meth : Method} {c : Code} {Q : State → Prop} {q : am_Q} {Dg : va_G} {b L : Nat} {xs : Nat → Int32} {H : Heap} {locs : List Loc} {als : Array Slot} {S : am_S} {D : am_D} {st rest : List Value} {pc i : Nat}
set_option maxHeartbeats 4000000 in
/-- a call of a method of one of the two -/
theorem lw_cv {j idx a : Nat} {As : List Value} {r : am_R} {M : MethodName × ByteArray × Nat × Option FieldType × Nat × Nat × Nat × Nat × Nat} (C : lw_Cx p s m meth c b L xs q Dg) (hM : am_M[j]? = some M) (hk : M.2.2.2.2.2.1 = 1) (w3 : Cond.methodLink R_law idx M.1 ∈ lw_tbl) (hc : am_sem 8 j (.ref a :: As) S D = some r) (hka : am_kd S a = M.2.2.2.2.1 + 5) (hd : decode code pc = .ok (.invokevirtual idx, 3)) (hrl : (rest.map fun v => v.category).sum ≤ 8) (hz : als.size = 4) (hcap : am_nx r.2.1 ≤ 600000 ∧ am_sl r.2.1 ≤ 7302249) (hS : am_St s.heap.size q Dg s 0 0 S D H locs)
    (kk : ∀ (H1 : Heap) (locs1 : List Loc), am_St s.heap.size q Dg s 0 0 r.2.1 r.2.2 H1 locs1 → W p l e room_1 s m #[.ref b] below meth c H1 locs1 (am_nx r.2.1) (am_sl r.2.1) Q (F0 m (pc + 3) als ((r.1.map (am_sv s.heap.size)).toList ++ rest))) :
    W p l e room_1 s m #[.ref b] below meth c H locs (am_nx S) (am_sl S) Q (F0 m pc als ((As.map (am_sv s.heap.size)).reverse ++ .ref (s.heap.size + a) :: rest)) := by
  obtain ⟨⟨hx, hb, hrt, hml, hown, hts0, hX, hbl, hlocks, hgv⟩, hL, hK, hxt⟩ := C
  obtain ⟨hP, hV, hw, hn0, hs0⟩ := hS
  have hts : ∀ w ∈ am_tw, w.before #[.ref b] s = true := fun w hw => hts0 w (List.mem_filter.mp hw).1
  obtain ⟨d', M', -, hM', hl1, hl2, hnx, hsl, hokr, -⟩ := am_sem_inv hc
  rw [hM] at hM'
  cases hM'
  obtain ⟨m1, m2, m3, m4, m5, m6, m7, m8, m9⟩ := am_M_at hM
  have hMet := am_met_all l 8 s.heap.size q Dg j _ S D r M hc hM hw
  refine am_size (nx0 := 0) (bs := s.heap.size) (q := q) (D := D) (Dg := Dg) rfl rfl hP fun hsz => ?_
  have hkk : ∀ (H1 : Heap) (locs1 : List Loc), va_P Dg vwCl (am_wld q s.heap.size r.2.1 r.2.2) H1 → am_wS r.2.1 → va_S (fun x => s.heap.size ≤ x) s.heap H1 locs1 → W p l e room_1 s m #[.ref b] below meth c H1 locs1 (am_nx S + M.2.2.2.2.2.2.2.1) (am_sl S + M.2.2.2.2.2.2.2.2) Q (F0 m (pc + 3) als ((r.1.map (am_sv s.heap.size)).toList ++ rest)) := by
    intro H1 locs1 hP1 hw1 hV1
    have hW := kk H1 locs1 ⟨hP1, hV1, hw1, by omega, by omega⟩
    rw [hnx, hsl] at hW
    exact hW
  have hpc : ∀ U : State, U.heap = H → s.WarmedH U.vm → am_Pc s.heap.size q Dg (.ref a :: As) S D ((Value.ref a :: As).map (am_sv s.heap.size)).toArray U := fun U hU hW => ⟨rfl, by rw [hU]; exact hsz, by rw [hU]; exact hP, va_K.moved hW.alike hK, hxt.warm hW⟩
  have hcells : am_nx S + M.2.2.2.2.2.2.2.1 ≤ room_1.cells ∧ am_sl S + M.2.2.2.2.2.2.2.2 ≤ room_1.slots := by
    show _ ≤ 600000 ∧ _ ≤ 7302249
    constructor <;> omega
  have hroom : (am_room 8 M.2.2.2.2.2.2.2.1 M.2.2.2.2.2.2.2.2).frames + 1 ≤ room_1.frames ∧ 8 + (M.2.2.1 + 11) + (am_room 8 M.2.2.2.2.2.2.2.1 M.2.2.2.2.2.2.2.2).locals ≤ room_1.locals := by
    show 8 + 1 ≤ 9 ∧ 8 + (M.2.2.1 + 11) + 33 * 8 ≤ 336
    omega
  have hmh : M.1.cls ≠ "java/lang/invoke/MethodHandle" ∧ M.1.cls ≠ "java/lang/invoke/VarHandle" := by
    rw [m4]
    have : ∀ k, k < 14 → am_rn k ≠ "java/lang/invoke/MethodHandle" ∧ am_rn k ≠ "java/lang/invoke/VarHandle" := by decide +kernel
    exact this _ m7
  have hfix : CallFix p m c code 4 s #[.ref b] am_tw R_law := ⟨hx, hb, hml, hown, hts⟩
  rcases m3 with ⟨k0, w1⟩ | ⟨k0, w1, w2⟩ | ⟨k0, w1, w2⟩
  · omega
  · have hcl : M.2.2.2.2.1 < 11 := by
      rcases m8 with h0 | h0
      · omega
      · exact h0.2
    rw [if_neg (by omega)] at m5
    have hAl : As.length = M.2.2.2.2.2.2.1 - 1 := by
      rw [List.length_cons] at hl2
      omega
    obtain ⟨cq, hcq⟩ : ∃ x, vwCl[M.2.2.2.2.1]? = some x := ⟨_, List.getElem?_eq_getElem (show M.2.2.2.2.1 < vwCl.length from hcl)⟩
    have hcn : cq.1 = M.1.cls := by rw [m4]; exact (am_cls (ci := M.2.2.2.2.1) (C := cq.1) (T := cq.2.1) (N := cq.2.2) hcq).2.2.1
    have hrecv := va_recv hK hP hcq (am_cell_obj (q := q) (bs := s.heap.size) (D := D) hka ▸ am_wld_get (am_lt hw hka (by omega)))
    rw [hcn] at hrecv
    exact am_callG (va_runV (C := M.1.cls) (b := s.heap.size + a) (As := As.map (am_sv s.heap.size)) (rest := rest) (n := M.2.2.2.2.2.2.1 - 1) hfix hMet ⟨callB_of _ hts (am_goodIn m1) rfl rfl rfl (hts _ (am_tw_of m2 rfl)) (hts _ (am_tw_of w3 rfl)) ⟨hmh.1, hmh.2, m5⟩ hroom, hts _ (am_tw_of w1 rfl), hts _ (am_tw_of w2 rfl)⟩ ⟨am_Pc_blind, hrecv, hpc⟩ rfl (by rw [List.length_map]; exact hAl) hz rfl (lv_room hrl) hd hcells) hV hkk
  · omega
set_option maxHeartbeats 4000000 in
/-- a constructor's call -/
theorem lw_ci {j idx a : Nat} {r : am_R} {M : MethodName × ByteArray × Nat × Option FieldType × Nat × Nat × Nat × Nat × Nat} (C : lw_Cx p s m meth c b L xs q Dg) (hM : am_M[j]? = some M) (hk : M.2.2.2.2.2.1 = 2) (w3 : Cond.methodLink R_law idx M.1 ∈ lw_tbl) (hc : am_sem 8 j [.ref a] S D = some r) (hd : decode code pc = .ok (.invokespecial idx, 3)) (hrl : (rest.map fun v => v.category).sum ≤ 8) (hz : als.size = 4) (hcap : am_nx r.2.1 ≤ 600000 ∧ am_sl r.2.1 ≤ 7302249) (hS : am_St s.heap.size q Dg s 0 0 S D H locs)
    (kk : ∀ (H1 : Heap) (locs1 : List Loc), am_St s.heap.size q Dg s 0 0 r.2.1 r.2.2 H1 locs1 → W p l e room_1 s m #[.ref b] below meth c H1 locs1 (am_nx r.2.1) (am_sl r.2.1) Q (F0 m (pc + 3) als ((r.1.map (am_sv s.heap.size)).toList ++ rest))) :
    W p l e room_1 s m #[.ref b] below meth c H locs (am_nx S) (am_sl S) Q (F0 m pc als (.ref (s.heap.size + a) :: rest)) := by
  obtain ⟨⟨hx, hb, hrt, hml, hown, hts0, hX, hbl, hlocks, hgv⟩, hL, hK, hxt⟩ := C
  obtain ⟨hP, hV, hw, hn0, hs0⟩ := hS
  have hts : ∀ w ∈ am_tw, w.before #[.ref b] s = true := fun w hw => hts0 w (List.mem_filter.mp hw).1
  obtain ⟨d', M', -, hM', hl1, hl2, hnx, hsl, hokr, -⟩ := am_sem_inv hc
  rw [hM] at hM'
  cases hM'
  obtain ⟨m1, m2, m3, m4, m5, m6, m7, m8, m9⟩ := am_M_at hM
  have hMet := am_met_all l 8 s.heap.size q Dg j _ S D r M hc hM hw
  refine am_size (nx0 := 0) (bs := s.heap.size) (q := q) (D := D) (Dg := Dg) rfl rfl hP fun hsz => ?_
  have hkk : ∀ (H1 : Heap) (locs1 : List Loc), va_P Dg vwCl (am_wld q s.heap.size r.2.1 r.2.2) H1 → am_wS r.2.1 → va_S (fun x => s.heap.size ≤ x) s.heap H1 locs1 → W p l e room_1 s m #[.ref b] below meth c H1 locs1 (am_nx S + M.2.2.2.2.2.2.2.1) (am_sl S + M.2.2.2.2.2.2.2.2) Q (F0 m (pc + 3) als ((r.1.map (am_sv s.heap.size)).toList ++ rest)) := by
    intro H1 locs1 hP1 hw1 hV1
    have hW := kk H1 locs1 ⟨hP1, hV1, hw1, by omega, by omega⟩
    rw [hnx, hsl] at hW
    exact hW
  have hpc : ∀ U : State, U.heap = H → s.WarmedH U.vm → am_Pc s.heap.size q Dg [.ref a] S D ([Value.ref a].map (am_sv s.heap.size)).toArray U := fun U hU hW => ⟨rfl, by rw [hU]; exact hsz, by rw [hU]; exact hP, va_K.moved hW.alike hK, hxt.warm hW⟩
  have hcells : am_nx S + M.2.2.2.2.2.2.2.1 ≤ room_1.cells ∧ am_sl S + M.2.2.2.2.2.2.2.2 ≤ room_1.slots := by
    show _ ≤ 600000 ∧ _ ≤ 7302249
    constructor <;> omega
  have hroom : (am_room 8 M.2.2.2.2.2.2.2.1 M.2.2.2.2.2.2.2.2).frames + 1 ≤ room_1.frames ∧ 8 + (M.2.2.1 + 11) + (am_room 8 M.2.2.2.2.2.2.2.1 M.2.2.2.2.2.2.2.2).locals ≤ room_1.locals := by
    show 8 + 1 ≤ 9 ∧ 8 + (M.2.2.1 + 11) + 33 * 8 ≤ 336
    omega
  have hmh : M.1.cls ≠ "java/lang/invoke/MethodHandle" ∧ M.1.cls ≠ "java/lang/invoke/VarHandle" := by
    rw [m4]
    have : ∀ k, k < 14 → am_rn k ≠ "java/lang/invoke/MethodHandle" ∧ am_rn k ≠ "java/lang/invoke/VarHandle" := by decide +kernel
    exact this _ m7
  have hfix : CallFix p m c code 4 s #[.ref b] am_tw R_law := ⟨hx, hb, hml, hown, hts⟩
  rcases m3 with ⟨k0, w1⟩ | ⟨k0, w1, w2⟩ | ⟨k0, w1, w2⟩
  · omega
  · omega
  · rw [if_neg (by omega)] at m5
    have hAl : 0 = M.2.2.2.2.2.2.1 - 1 := by
      rw [List.length_cons, List.length_nil] at hl2
      omega
    have hvo : M.2.2.2.1 = none := by
      have h9 := List.all_eq_true.mp am_M_v M (List.mem_of_getElem? hM)
      simp only [decide_eq_true_eq] at h9
      exact h9 k0
    rw [hvo] at hMet m1
    exact am_callG (va_runI (b := s.heap.size + a) (As := []) (rest := rest) (n := M.2.2.2.2.2.2.1 - 1) hfix hMet ⟨callB_of _ hts (am_goodIn m1) rfl rfl rfl (hts _ (am_tw_of m2 rfl)) (hts _ (am_tw_of w3 rfl)) ⟨hmh.1, hmh.2, m5⟩ hroom, w2, hts _ (am_tw_of w1 rfl)⟩ ⟨am_Pc_blind, hpc⟩ rfl hAl hz rfl (lv_room hrl) hd hcells) hV hkk
set_option maxHeartbeats 4000000 in
/-- a new object of one of the two -/
theorem lw_nw {idx ci : Nat} (C : lw_Cx p s m meth c b L xs q Dg) (w1 : Cond.classLink R_law idx (am_rn ci) ∈ lw_tbl) (w2 : Cond.instantiable (am_rn ci) (am_nf ci) ∈ lw_tbl) (w3 : Cond.initialized (am_rn ci) ∈ lw_tbl) (hlt : ci < 11) (hd : decode code pc = .ok (.new idx, 3)) (hcap : am_nx S + 1 ≤ 600000 ∧ am_sl S + am_nf ci ≤ 7302249) (hS : am_St s.heap.size q Dg s 0 0 S D H locs)
    (kk : ∀ (H1 : Heap), am_St s.heap.size q Dg s 0 0 (am_nw S (ci + 5) (am_nf ci)) (am_zr D (am_nx S)) H1 locs → W p l e room_1 s m #[.ref b] below meth c H1 locs (am_nx S + 1) (am_sl S + am_nf ci) Q (F0 m (pc + 3) als (.ref (s.heap.size + am_nx S) :: rest))) :
    W p l e room_1 s m #[.ref b] below meth c H locs (am_nx S) (am_sl S) Q (F0 m pc als rest) := by
  obtain ⟨⟨hx, hb, hrt, hml, hown, hts0, hX, hbl, hlocks, hgv⟩, hL, hK, hxt⟩ := C
  obtain ⟨hP, hV, hw, hn0, hs0⟩ := hS
  have hts : ∀ w ∈ am_tw, w.before #[.ref b] s = true := fun w hw => hts0 w (List.mem_filter.mp hw).1
  obtain ⟨cq, hcq⟩ : ∃ x, vwCl[ci]? = some x := ⟨_, List.getElem?_eq_getElem (show ci < vwCl.length from hlt)⟩
  obtain ⟨CN, T, N⟩ := cq
  have hcl := am_cls hcq
  obtain ⟨h1, h2, h3, h4, ty0, h5, h6, h7⟩ := hcl
  have hnn : am_nx (am_nw S (ci + 5) (am_nf ci)) = am_nx S + 1 := rfl
  have hss : am_sl (am_nw S (ci + 5) (am_nf ci)) = am_sl S + am_nf ci := rfl
  have hkd : am_kd (am_nw S (ci + 5) (am_nf ci)) (am_nx S) = ci + 5 := by
    show (if am_nx S = am_nx S then ci + 5 else _) = _
    rw [if_pos rfl]
  rw [← h3] at w1 w2 w3
  rw [← h2] at w2
  refine va_new (ci := ci) (fs := (List.range (am_nf ci)).map fun i => am_sv s.heap.size (am_fv (am_nw S (ci + 5) (am_nf ci)) (am_zr D (am_nx S)) (am_nx S) i (am_st ci i))) (C := CN) (T := T) (N := N) hx hb hts (am_lay_good h1) ty0 h5 hown (hts _ (am_tw_of w1 rfl)) (hts _ (am_tw_of w2 rfl)) (hts _ (am_tw_of w3 rfl)) hK hP am_wld_D hV (fun z hz => hz) hcq ?_ (by show _ ≤ 600000; omega) (by show _ ≤ 7302249; omega) hd (fun x H1 hP1 hD1 hV1 => ?_)
  · intro j hj
    have h8 := h7 j hj
    have h9 : vp_V ((List.range (am_nf ci)).map fun i => am_sv s.heap.size (am_fv (am_nw S (ci + 5) (am_nf ci)) (am_zr D (am_nx S)) (am_nx S) i (am_st ci i))) j = am_sv s.heap.size (am_fv (am_nw S (ci + 5) (am_nf ci)) (am_zr D (am_nx S)) (am_nx S) j (am_st ci j)) := by
      unfold vp_V
      rw [List.getD_eq_getElem?_getD, List.getElem?_map, List.getElem?_range (by omega)]
      rfl
    rw [h9]
    have hz : am_zr D (am_nx S) (am_nx S) j = 0 := by
      show (if am_nx S = am_nx S then 0 else _) = _
      rw [if_pos rfl]
    have hrf : am_rf (am_nw S (ci + 5) (am_nf ci)) (am_nx S) j = none := by
      show (if am_nx S = am_nx S then none else _) = _
      rw [if_pos rfl]
    unfold am_fv
    rw [hz, hrf]
    simp only [am_srt, Bool.or_eq_true, Bool.and_eq_true, beq_iff_eq] at h8
    rcases h8 with (h8 | h8) | h8
    · rw [h8.1.1, h8.1.2]; rfl
    · rw [h8.1.1, h8.1.2]; rfl
    · rw [h8.1.1]
      have h10 := h8.1.2
      cases hty : ty0 j <;> rw [hty] at h10 <;> first | rfl | cases h10
  · refine am_sizeU fun hle => ?_
    have hxp := am_place hP1 hD1 (by omega)
    subst hxp
    rw [am_push (S := S) (D := D) (k := ci + 5) (n := am_nf ci) (am_cell_obj hkd)] at hP1
    have hW := kk H1 ⟨hP1, hV1, am_wS_nw hw, by omega, by omega⟩
    rw [show N = am_nf ci by omega]
    exact hW
/-- script[i + k] comes onto the stack -/
theorem lw_arg {k nx sl : Nat} (C : lw_Cx p s m meth c b L xs q Dg) (hV : va_S (fun x => s.heap.size ≤ x) s.heap H locs) (h0 : als[0]? = some (.val (.ref b))) (h3 : als[3]? = some (.val (.int (nI i)))) (hk : k ≤ 5) (hi : i + k < L) (hd : lw_dA pc k)
    (kk : W p l e room_1 s m #[.ref b] below meth c H locs nx sl Q (F0 m (pc + 5) als (.int (xs (i + k)) :: st))) : W p l e room_1 s m #[.ref b] below meth c H locs nx sl Q (F0 m pc als st) := by
  obtain ⟨⟨hx, hb, hrt, hml, hown, hts0, hX, hbl, hlocks, hgv⟩, hL, hK, hxt⟩ := C
  obtain ⟨d0, d1, d2, d3, d4⟩ := hd
  refine lv_aload_n hx hb d0 rfl h0 ?_
  refine lv_iload_n hx hb d1 rfl h3 ?_
  refine lv_iconst (v := nI k) hx hb d2 ?_ ?_
  · have : k = 0 ∨ k = 1 ∨ k = 2 ∨ k = 3 ∨ k = 4 ∨ k = 5 := by omega
    rcases this with rfl | rfl | rfl | rfl | rfl | rfl <;> decide
  refine lv_iadd hx hb d3 ?_
  have e1 : nI i + nI k = nI (i + k) := by rw [iI_nI, iI_nI, iI_nI, iI_add]; congr 1
  rw [e1]
  refine va_sld (A := fun x => s.heap.size ≤ x) hx hb hX hbl (by omega) hV (vp_in_nI hi (by omega)) d4 ?_
  have e2 : (nI (i + k)).toNatClampNeg = i + k := by rw [iI_nI]; exact iI_cl _ (by omega)
  rw [e2]
  exact kk
theorem lw_args {nx sl : Nat} (C : lw_Cx p s m meth c b L xs q Dg) (hV : va_S (fun x => s.heap.size ≤ x) s.heap H locs) (h0 : als[0]? = some (.val (.ref b))) (h3 : als[3]? = some (.val (.int (nI i)))) : ∀ (n k pc : Nat) (st : List Value), k + n ≤ 6 → (n = 0 ∨ i + k + n ≤ L) → (∀ t, t < n → lw_dA (pc + 5 * t) (k + t)) →
    W p l e room_1 s m #[.ref b] below meth c H locs nx sl Q (F0 m (pc + 5 * n) als ((lwA xs (i + k) n).reverse ++ st)) → W p l e room_1 s m #[.ref b] below meth c H locs nx sl Q (F0 m pc als st) := by
  intro n
  induction n with
  | zero => intro k pc st _ _ _ kk; exact kk
  | succ n ih =>
    intro k pc st hk hL hd kk
    refine lw_arg C hV h0 h3 (k := k) (by omega) (by omega) (hd 0 (by omega)) ?_
    refine ih (k + 1) (pc + 5) _ (by omega) (by omega) (fun t ht => ?_) ?_
    · have := hd (t + 1) (by omega)
      rw [show pc + 5 * (t + 1) = pc + 5 + 5 * t by omega, show k + (t + 1) = k + 1 + t by omega] at this
      exact this
    · rw [show pc + 5 * (n + 1) = pc + 5 + 5 * n by omega] at kk
      rw [show lwA xs (i + k) (n + 1) = .int (xs (i + k)) :: lwA xs (i + k + 1) n from rfl, List.reverse_cons, List.append_assoc] at kk
      exact kk
theorem lwA_sv (bs : Nat) (xs : Nat → Int32) : ∀ (n j : Nat), (lwA xs j n).map (am_sv bs) = lwA xs j n
  | 0, _ => rfl
  | n + 1, j => by
    show am_sv bs (.int (xs j)) :: (lwA xs (j + 1) n).map (am_sv bs) = _
    rw [lwA_sv bs xs n (j + 1)]
    rfl
set_option maxHeartbeats 4000000 in
/-- one case of the law: both answer the same, on to the next round -/
theorem lw_case {n i1 i2 jc jm : Nat} {E : Nat → Nat → Int} (C : lw_Cx p s m meth c b L xs q Dg) (hS : am_St s.heap.size q Dg s 0 0 am_S0 (dI E) H locs) (hl : lv_has als 4 [(0, .ref b), (1, .ref s.heap.size), (2, .ref (s.heap.size + 378)), (3, .int (nI i))]) (hi : i + 6 ≤ L) (hn : n ≤ 5) (hd : lw_D pc n i1 i2) (hj : lw_L jc jm i1 i2) (hp : pub jc jm (lwA xs (i + 1) n) E)
    (kk : ∀ (H1 : Heap) (locs1 : List Loc) (E1 : Nat → Nat → Int), GG E1 → am_St s.heap.size q Dg s 0 0 am_S0 (dI E1) H1 locs1 → W p l e room_1 s m #[.ref b] below meth c H1 locs1 395 30461 Q (F0 m 1222 als [])) :
    W p l e room_1 s m #[.ref b] below meth c H locs 395 30461 Q (F0 m pc als []) := by
  obtain ⟨d0, d1, d2, d3, d4, d5, d6⟩ := hd
  obtain ⟨⟨M1, a1, a2, a3, a4⟩, M2, b1, b2, b3, b4⟩ := hj
  obtain ⟨v, E1, E2, h1, h2, hG⟩ := hp
  have hx := C.1.1
  have hb := C.1.2.1
  have s0 : als[0]? = some (.val (.ref b)) := lv_at hl 0 rfl
  have s3 : als[3]? = some (.val (.int (nI i))) := lv_at hl 3 rfl
  refine lv_aload_n hx hb d0 rfl (lv_at hl 1 rfl) ?_
  refine lw_args C hS.2.1 s0 s3 n 1 _ _ (by omega) (by omega) d1 ?_
  have W1 := lw_cv (p := p) (l := l) (e := e) (below := below) (Q := Q) (H := H) (locs := locs) (als := als) (rest := []) C a1 a2 a4 h1 (by rw [a3]; exact sk_0) d2 (by decide) hl.1 (by show 395 ≤ 600000 ∧ 30461 ≤ 7302249; decide) hS
  rw [lwA_sv] at W1
  refine W1 fun H1 locs1 hS1 => ?_
  refine lv_aload_n hx hb d3 rfl (lv_at hl 2 rfl) ?_
  refine lw_args C hS1.2.1 s0 s3 n 1 _ _ (by omega) (by omega) d4 ?_
  have W2 := lw_cv (p := p) (l := l) (e := e) (below := below) (Q := Q) (H := H1) (locs := locs1) (als := als) (rest := [.int v]) C b1 b2 b4 h2 (by rw [b3]; exact sk_378) d5 (by show 1 + 0 ≤ 8; decide) hl.1 (by show 395 ≤ 600000 ∧ 30461 ≤ 7302249; decide) hS1
  rw [lwA_sv] at W2
  refine W2 fun H2 locs2 hS2 => ?_
  refine lv_icmp_eq (tgt := 1222) hx hb d6 (by omega) (fun _ => ?_) (fun h => absurd rfl h)
  exact kk H2 locs2 E2 hG hS2
end
