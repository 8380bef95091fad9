section
variable {cal : am_C} {own : Nat} {cc : ByteArray} {pc : Nat} {ls st : List Value} {S : am_S} {D : am_D} {r : am_R}
theorem am_e_ic {n : Int} {v : Int32} (hd : decode cc pc = .ok (.iconst n, 1)) (hv : Int32.ofInt n = v) : am_ev cal own cc pc ls st S D r = am_ev cal own cc (pc + 1) ls (.int v :: st) S D r := by
  subst hv; exact am_ev_go hd rfl
theorem am_e_bi {n : Int} {v : Int32} (hd : decode cc pc = .ok (.bipush n, 2)) (hv : (Int8.ofInt n).toInt32 = v) : am_ev cal own cc pc ls st S D r = am_ev cal own cc (pc + 2) ls (.int v :: st) S D r := by
  subst hv; exact am_ev_go hd rfl
theorem am_e_si {n : Int} {v : Int32} (hd : decode cc pc = .ok (.sipush n, 3)) (hv : (Int16.ofInt n).toInt32 = v) : am_ev cal own cc pc ls st S D r = am_ev cal own cc (pc + 3) ls (.int v :: st) S D r := by
  subst hv; exact am_ev_go hd rfl
theorem am_e_lc {n : Fin 2} {v : Int64} (hd : decode cc pc = .ok (.lconst n, 1)) (hv : Int64.ofNat (n : Nat) = v) : am_ev cal own cc pc ls st S D r = am_ev cal own cc (pc + 1) ls (.long v :: st) S D r := by
  subst hv; exact am_ev_go hd rfl
theorem am_so_0 (h : 0 < ls.length) : am_so ls 0 := ⟨h, fun j v h1 _ => by omega⟩
theorem am_so_s {i : Nat} {w : Value} (h : i + 1 < ls.length) (hw : ls[i]? = some w) (hc : w.category = 1) : am_so ls (i + 1) := ⟨h, fun j v h1 h2 => by
  have : j = i := by omega
  subst this
  rw [hw] at h2
  cases h2
  exact hc⟩
theorem am_e_ist {i : Nat} {x : Int32} (hd : decode cc pc = .ok (.istore i, 2)) (hs : am_so ls i) : am_ev cal own cc pc ls (.int x :: st) S D r = am_ev cal own cc (pc + 2) (ls.set i (.int x)) st S D r := am_ev_go hd (am_if_t (b := none) hs)
theorem am_e_istn {i : Fin 4} {x : Int32} (hd : decode cc pc = .ok (.istore_n i, 1)) (hs : am_so ls i) : am_ev cal own cc pc ls (.int x :: st) S D r = am_ev cal own cc (pc + 1) (ls.set i (.int x)) st S D r := am_ev_go hd (am_if_t (b := none) hs)
theorem am_e_ast {i : Nat} {x : Nat} (hd : decode cc pc = .ok (.astore i, 2)) (hs : am_so ls i) : am_ev cal own cc pc ls (.ref x :: st) S D r = am_ev cal own cc (pc + 2) (ls.set i (.ref x)) st S D r := am_ev_go hd (am_if_t (b := none) hs)
theorem am_e_astn {i : Fin 4} {x : Nat} (hd : decode cc pc = .ok (.astore_n i, 1)) (hs : am_so ls i) : am_ev cal own cc pc ls (.ref x :: st) S D r = am_ev cal own cc (pc + 1) (ls.set i (.ref x)) st S D r := am_ev_go hd (am_if_t (b := none) hs)
theorem am_e_lst {i : Nat} {x : Int64} (hd : decode cc pc = .ok (.lstore i, 2)) (hs : am_so ls i) (hl : i + 1 < ls.length) : am_ev cal own cc pc ls (.long x :: st) S D r = am_ev cal own cc (pc + 2) ((ls.set i (.long x)).set (i + 1) (.retAddr 0)) st S D r := am_ev_go hd (am_if_t (b := none) ⟨hs, hl⟩)
theorem am_e_lstn {i : Fin 4} {x : Int64} (hd : decode cc pc = .ok (.lstore_n i, 1)) (hs : am_so ls i) (hl : (i : Nat) + 1 < ls.length) : am_ev cal own cc pc ls (.long x :: st) S D r = am_ev cal own cc (pc + 1) ((ls.set i (.long x)).set (i + 1) (.retAddr 0)) st S D r := am_ev_go hd (am_if_t (b := none) ⟨hs, hl⟩)
theorem am_e_inc {i : Nat} {n : Int} {x v : Int32} (hd : decode cc pc = .ok (.iinc i n, 3)) (hx : ls[i]? = some (.int x)) (hv : Int32.ofInt n = v) (hs : am_so ls i) : am_ev cal own cc pc ls st S D r = am_ev cal own cc (pc + 3) (ls.set i (.int (x + v))) st S D r := by
  subst hv
  refine am_ev_go hd ?_
  show am_q 3 3 (am_gi ls i fun x => am_if (am_so ls i) (am_go (pc + 3) (ls.set i (.int (x + Int32.ofInt n))) st S D) none) = _
  unfold am_gi
  rw [hx]
  exact am_if_t (b := none) hs
theorem am_so_iff {i : Nat} {w : Value} (hl : i + 1 < ls.length) (hw : ls[i]? = some w) : am_so ls (i + 1) = (w.category = 1) := propext ⟨fun h => h.2 i w rfl hw, fun h => am_so_s hl hw h⟩
theorem am_e_istC {i : Nat} {x : Int32} {w : Value} (hd : decode cc pc = .ok (.istore (i + 1), 2)) (hl : i + 1 < ls.length) (hw : ls[i]? = some w) : am_ev cal own cc pc ls (.int x :: st) S D r = (w.category = 1 ∧ am_ev cal own cc (pc + 2) (ls.set (i + 1) (.int x)) st S D r) := by
  rw [← am_so_iff hl hw]; exact am_ev_if hd rfl
theorem am_e_istnC {k : Fin 4} {i : Nat} {x : Int32} {w : Value} (hd : decode cc pc = .ok (.istore_n k, 1)) (hk : (k : Nat) = i + 1) (hl : i + 1 < ls.length) (hw : ls[i]? = some w) : am_ev cal own cc pc ls (.int x :: st) S D r = (w.category = 1 ∧ am_ev cal own cc (pc + 1) (ls.set (i + 1) (.int x)) st S D r) := by
  rw [← am_so_iff hl hw, ← hk]; exact am_ev_if hd rfl
theorem am_e_astC {i : Nat} {x : Nat} {w : Value} (hd : decode cc pc = .ok (.astore (i + 1), 2)) (hl : i + 1 < ls.length) (hw : ls[i]? = some w) : am_ev cal own cc pc ls (.ref x :: st) S D r = (w.category = 1 ∧ am_ev cal own cc (pc + 2) (ls.set (i + 1) (.ref x)) st S D r) := by
  rw [← am_so_iff hl hw]; exact am_ev_if hd rfl
theorem am_e_astnC {k : Fin 4} {i : Nat} {x : Nat} {w : Value} (hd : decode cc pc = .ok (.astore_n k, 1)) (hk : (k : Nat) = i + 1) (hl : i + 1 < ls.length) (hw : ls[i]? = some w) : am_ev cal own cc pc ls (.ref x :: st) S D r = (w.category = 1 ∧ am_ev cal own cc (pc + 1) (ls.set (i + 1) (.ref x)) st S D r) := by
  rw [← am_so_iff hl hw, ← hk]; exact am_ev_if hd rfl
theorem am_e_lstC {i : Nat} {x : Int64} {w : Value} (hd : decode cc pc = .ok (.lstore (i + 1), 2)) (hl : i + 2 < ls.length) (hw : ls[i]? = some w) : am_ev cal own cc pc ls (.long x :: st) S D r = (w.category = 1 ∧ am_ev cal own cc (pc + 2) ((ls.set (i + 1) (.long x)).set (i + 2) (.retAddr 0)) st S D r) := by
  have e := am_ev_if (cal := cal) (own := own) (st := .long x :: st) (S := S) (D := D) (r := r) (c := am_so ls (i + 1) ∧ i + 1 + 1 < ls.length) (pc' := pc + 2) (ls' := (ls.set (i + 1) (.long x)).set (i + 1 + 1) (.retAddr 0)) (st' := st) (S' := S) (D' := D) hd rfl
  rw [e, am_so_iff (by omega) hw]
  simp only [show i + 1 + 1 < ls.length from hl, and_true]
theorem am_e_lstnC {k : Fin 4} {i : Nat} {x : Int64} {w : Value} (hd : decode cc pc = .ok (.lstore_n k, 1)) (hk : (k : Nat) = i + 1) (hl : i + 2 < ls.length) (hw : ls[i]? = some w) : am_ev cal own cc pc ls (.long x :: st) S D r = (w.category = 1 ∧ am_ev cal own cc (pc + 1) ((ls.set (i + 1) (.long x)).set (i + 2) (.retAddr 0)) st S D r) := by
  have e := am_ev_if (cal := cal) (own := own) (st := .long x :: st) (S := S) (D := D) (r := r) (c := am_so ls (k : Nat) ∧ (k : Nat) + 1 < ls.length) (pc' := pc + 1) (ls' := (ls.set (k : Nat) (.long x)).set ((k : Nat) + 1) (.retAddr 0)) (st' := st) (S' := S) (D' := D) hd rfl
  rw [e, hk, am_so_iff (by omega) hw]
  simp only [show i + 1 + 1 < ls.length from hl, and_true]
theorem am_e_incC {i : Nat} {n : Int} {x v : Int32} {w : Value} (hd : decode cc pc = .ok (.iinc (i + 1) n, 3)) (hx : ls[i + 1]? = some (.int x)) (hv : Int32.ofInt n = v) (hw : ls[i]? = some w) : am_ev cal own cc pc ls st S D r = (w.category = 1 ∧ am_ev cal own cc (pc + 3) (ls.set (i + 1) (.int (x + v))) st S D r) := by
  have hl : i + 1 < ls.length := (List.getElem?_eq_some_iff.mp hx).1
  subst hv
  rw [← am_so_iff hl hw]
  refine am_ev_if hd ?_
  show am_q 3 3 (am_gi ls (i + 1) fun x => am_if (am_so ls (i + 1)) (am_go (pc + 3) (ls.set (i + 1) (.int (x + Int32.ofInt n))) st S D) none) = _
  unfold am_gi
  rw [hx]
  rfl
theorem am_e_dup {v : Value} (hd : decode cc pc = .ok (.dup, 1)) (hv : v.category = 1) : am_ev cal own cc pc ls (v :: st) S D r = am_ev cal own cc (pc + 1) ls (v :: v :: st) S D r := am_ev_go hd (am_if_t (b := none) hv)
theorem am_e_pop {v : Value} (hd : decode cc pc = .ok (.pop, 1)) (hv : v.category = 1) : am_ev cal own cc pc ls (v :: st) S D r = am_ev cal own cc (pc + 1) ls st S D r := am_ev_go hd (am_if_t (b := none) hv)
theorem am_e_dup2 {i : Int32} {a : Nat} (hd : decode cc pc = .ok (.dup2, 1)) : am_ev cal own cc pc ls (.int i :: .ref a :: st) S D r = am_ev cal own cc (pc + 1) ls (.int i :: .ref a :: .int i :: .ref a :: st) S D r := am_ev_go hd rfl
theorem am_e_newI {n : Int32} (hd : decode cc pc = .ok (.newarray .int, 2)) : am_ev cal own cc pc ls (.int n :: st) S D r = ((¬ n < 0 ∧ n.toNatClampNeg ≤ 100000 ∧ (ArrayType.int = .int ∨ ArrayType.int = .boolean)) ∧ am_ev cal own cc (pc + 2) ls (.ref (am_nx S) :: st) (am_nw S 1 n.toNatClampNeg) (am_zr D (am_nx S)) r) := am_ev_if hd rfl
theorem am_e_newZ {n : Int32} (hd : decode cc pc = .ok (.newarray .boolean, 2)) : am_ev cal own cc pc ls (.int n :: st) S D r = ((¬ n < 0 ∧ n.toNatClampNeg ≤ 100000 ∧ (ArrayType.boolean = .int ∨ ArrayType.boolean = .boolean)) ∧ am_ev cal own cc (pc + 2) ls (.ref (am_nx S) :: st) (am_nw S 2 n.toNatClampNeg) (am_zr D (am_nx S)) r) := am_ev_if hd rfl
theorem am_e_anew {idx : Nat} {n : Int32} (hd : decode cc pc = .ok (.anewarray idx, 3)) : am_ev cal own cc pc ls (.int n :: st) S D r = ((am_lu am_nT own idx = some 3 ∧ ¬ n < 0 ∧ n.toNatClampNeg ≤ 100000) ∧ am_ev cal own cc (pc + 3) ls (.ref (am_nx S) :: st) (am_nw S 3 n.toNatClampNeg) (am_zr D (am_nx S)) r) := am_ev_if hd rfl
theorem am_e_mna {idx : Nat} {n k : Int32} (hd : decode cc pc = .ok (.multianewarray idx 2, 4)) : am_ev cal own cc pc ls (.int k :: .int n :: st) S D r = ((own = 106 ∧ idx = 18 ∧ ¬ n < 0 ∧ ¬ k < 0 ∧ n.toNatClampNeg ≤ 1000 ∧ k.toNatClampNeg ≤ 1000) ∧ am_ev cal own cc (pc + 4) ls (.ref (am_nx S) :: st) (am_mw S n.toNatClampNeg k.toNatClampNeg) (am_zs D (am_nx S) (1 + n.toNatClampNeg)) r) := am_ev_if hd rfl
theorem am_e_tabIn {d lo hi : Int} {offs : Array Int} {len : Nat} {x : Int32} {off : Int} {tgt : Nat} (hd : decode cc pc = .ok (.tableswitch d lo hi offs, len)) (h1 : ¬ (x.toInt < lo ∨ hi < x.toInt)) (ho : offs[(x.toInt - lo).toNat]? = some off) (ht : (pc : Int) + off = (tgt : Int)) : am_ev cal own cc pc ls (.int x :: st) S D r = am_ev cal own cc tgt ls st S D r := by
  have e : am_nxt cal own (.tableswitch d lo hi offs) len pc ls (.int x :: st) S D = am_if (x.toInt < lo ∨ hi < x.toInt) (am_j pc d fun tgt => am_go tgt ls st S D) (match offs[(x.toInt - lo).toNat]? with
      | some off => am_j pc off fun tgt => am_go tgt ls st S D
      | none => none) := rfl
  rw [am_if_f h1, ho] at e
  simp only at e
  rw [am_j_eq ht] at e
  exact am_ev_go hd e
theorem am_e_tabOut {d lo hi : Int} {offs : Array Int} {len : Nat} {x : Int32} {tgt : Nat} (hd : decode cc pc = .ok (.tableswitch d lo hi offs, len)) (h1 : x.toInt < lo ∨ hi < x.toInt) (ht : (pc : Int) + d = (tgt : Int)) : am_ev cal own cc pc ls (.int x :: st) S D r = am_ev cal own cc tgt ls st S D r := by
  have e : am_nxt cal own (.tableswitch d lo hi offs) len pc ls (.int x :: st) S D = am_if (x.toInt < lo ∨ hi < x.toInt) (am_j pc d fun tgt => am_go tgt ls st S D) (match offs[(x.toInt - lo).toNat]? with
      | some off => am_j pc off fun tgt => am_go tgt ls st S D
      | none => none) := rfl
  rw [am_if_t h1, am_j_eq ht] at e
  exact am_ev_go hd e
end
theorem am_neI {x k : Int32} {z : Int} (h : ¬ x = k) (hk : k.toInt = z) : ¬ x.toInt = z := fun e => h (Int32.toInt_inj.mp (e.trans hk.symm))
