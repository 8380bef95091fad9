/-! ===== one instruction of the abstract machine, as a rewriting row ===== -/
def am_then (o : Option am_R) (K : Option Value → am_S → am_D → Prop) : Prop := ∃ r, o = some r ∧ K r.1 r.2.1 r.2.2
theorem am_then_some {v : Option Value} {S : am_S} {D : am_D} {K : Option Value → am_S → am_D → Prop} : am_then (some (v, S, D)) K = K v S D := by
  apply propext
  constructor
  · rintro ⟨r, h, k⟩; cases h; exact k
  · intro k; exact ⟨_, rfl, k⟩
section
variable {cal : am_C} {own : Nat} {cc : ByteArray} {pc : Nat} {ls st : List Value} {S : am_S} {D : am_D} {r : am_R}
theorem am_ev_go {i : Jvm.ClassFile.Instr} {len pc' : Nat} {ls' st' : List Value} {S' : am_S} {D' : am_D} (hd : decode cc pc = .ok (i, len)) (h : am_nxt cal own i len pc ls st S D = some (.inr (pc', ls', st', S', D'))) : am_ev cal own cc pc ls st S D r = am_ev cal own cc pc' ls' st' S' D' r := by
  apply propext
  constructor
  · rintro ⟨n, hn⟩
    cases n with
    | zero => cases hn
    | succ n =>
      unfold am_exec at hn
      rw [hd] at hn
      simp only [h] at hn
      exact ⟨n, hn⟩
  · rintro ⟨n, hn⟩
    refine ⟨n + 1, ?_⟩
    unfold am_exec
    rw [hd]
    simp only [h]
    exact hn
theorem am_ev_end {i : Jvm.ClassFile.Instr} {len : Nat} {r' : am_R} (hd : decode cc pc = .ok (i, len)) (h : am_nxt cal own i len pc ls st S D = some (.inl r')) : am_ev cal own cc pc ls st S D r = (r' = r) := by
  apply propext
  constructor
  · rintro ⟨n, hn⟩
    cases n with
    | zero => cases hn
    | succ n =>
      unfold am_exec at hn
      rw [hd] at hn
      simp only [h] at hn
      exact Option.some.inj hn
  · rintro rfl
    refine ⟨1, ?_⟩
    unfold am_exec
    rw [hd]
    simp only [h]
theorem am_ev_no {i : Jvm.ClassFile.Instr} {len : Nat} (hd : decode cc pc = .ok (i, len)) (h : am_nxt cal own i len pc ls st S D = none) : am_ev cal own cc pc ls st S D r = False := by
  apply propext
  constructor
  · rintro ⟨n, hn⟩
    cases n with
    | zero => cases hn
    | succ n =>
      unfold am_exec at hn
      rw [hd] at hn
      simp only [h] at hn
      cases hn
  · intro h; cases h
/-- a step under a condition -/
theorem am_ev_if {i : Jvm.ClassFile.Instr} {len pc' : Nat} {ls' st' : List Value} {S' : am_S} {D' : am_D} {c : Prop} (hd : decode cc pc = .ok (i, len)) (h : am_nxt cal own i len pc ls st S D = am_if c (am_go pc' ls' st' S' D') none) : am_ev cal own cc pc ls st S D r = (c ∧ am_ev cal own cc pc' ls' st' S' D' r) := by
  by_cases hc : c
  · rw [am_if_t hc] at h
    rw [am_ev_go hd h]
    simp [hc]
  · rw [am_if_f hc] at h
    rw [am_ev_no hd h]
    simp [hc]
theorem am_ev_br {i : Jvm.ClassFile.Instr} {len pc1 pc2 : Nat} {st' : List Value} {c : Prop} [Decidable c] (hd : decode cc pc = .ok (i, len)) (h : am_nxt cal own i len pc ls st S D = am_if c (am_go pc1 ls st' S D) (am_go pc2 ls st' S D)) : am_ev cal own cc pc ls st S D r = if c then am_ev cal own cc pc1 ls st' S D r else am_ev cal own cc pc2 ls st' S D r := by
  by_cases hc : c
  · rw [am_if_t hc] at h
    rw [am_ev_go hd h, if_pos hc]
  · rw [am_if_f hc] at h
    rw [am_ev_go hd h, if_neg hc]
theorem am_j_eq {pc tgt : Nat} {off : Int} {f : Nat → Option am_X} (h : (pc : Int) + off = (tgt : Int)) : am_j pc off f = f tgt := by
  unfold am_j
  rw [if_pos (by omega)]
  congr 1
  omega
theorem am_ev_goto {off : Int} {tgt : Nat} (hd : decode cc pc = .ok (.goto off, 3)) (ht : (pc : Int) + off = (tgt : Int)) : am_ev cal own cc pc ls st S D r = am_ev cal own cc tgt ls st S D r := am_ev_go hd (am_j_eq (f := fun tgt => am_go tgt ls st S D) ht)
theorem am_ev_if0 {cn : Jvm.ClassFile.Cond} {off : Int} {tgt : Nat} {x : Int32} {c : Prop} [Decidable c] (hc : am_cd cn x 0 = c) (hd : decode cc pc = .ok (.ifCond cn off, 3)) (ht : (pc : Int) + off = (tgt : Int)) : am_ev cal own cc pc ls (.int x :: st) S D r = if c then am_ev cal own cc tgt ls st S D r else am_ev cal own cc (pc + 3) ls st S D r := by
  subst hc
  exact am_ev_br hd (am_j_eq (f := fun tgt => am_if (am_cd cn x 0) (am_go tgt ls st S D) (am_go (pc + 3) ls st S D)) ht)
theorem am_ev_cmp {cn : Jvm.ClassFile.Cond} {off : Int} {tgt : Nat} {x y : Int32} {c : Prop} [Decidable c] (hc : am_cd cn x y = c) (hd : decode cc pc = .ok (.if_icmp cn off, 3)) (ht : (pc : Int) + off = (tgt : Int)) : am_ev cal own cc pc ls (.int y :: .int x :: st) S D r = if c then am_ev cal own cc tgt ls st S D r else am_ev cal own cc (pc + 3) ls st S D r := by
  subst hc
  exact am_ev_br hd (am_j_eq (f := fun tgt => am_if (am_cd cn x y) (am_go tgt ls st S D) (am_go (pc + 3) ls st S D)) ht)
/-- a call -/
theorem am_ev_call {i : Jvm.ClassFile.Instr} {len kind j na : Nat} {M : MethodName × ByteArray × Nat × Option FieldType × Nat × Nat × Nat × Nat × Nat} {av : List Value} (hd : decode cc pc = .ok (i, len)) (hM : am_M[j]? = some M) (hk : M.2.2.2.2.2.1 = kind) (hna : M.2.2.2.2.2.2.1 = na) (hl : (av.reverse).length = na) (hs : st.length ≤ 4) {c : Prop} (hc : (kind = 0 ∨ ∃ a, av.head? = some (.ref a) ∧ am_kd S a = M.2.2.2.2.1 + 5) ↔ c)
    (h : am_nxt cal own i len pc ls (av.reverse ++ st) S D = am_call cal kind j pc ls (av.reverse ++ st) S D) : am_ev cal own cc pc ls (av.reverse ++ st) S D r = (c ∧ am_then (cal j av S D) (fun v S' D' => am_ev cal own cc (pc + 3) ls (v.toList ++ st) S' D' r)) := by
  have e1 : (av.reverse ++ st).take na = av.reverse := by rw [← hl]; exact List.take_left' rfl
  have e2 : (av.reverse ++ st).drop na = st := by rw [← hl]; exact List.drop_left' rfl
  unfold am_call at h
  rw [hM] at h
  simp only [hk, hna, e1, e2, List.reverse_reverse] at h
  by_cases hcc : c
  · rw [am_if_t ⟨trivial, by rw [List.length_append]; omega, hs, hc.mpr hcc⟩] at h
    cases ho : cal j av S D with
    | none =>
      rw [ho] at h
      rw [am_ev_no hd h]
      simp [am_then]
    | some r1 =>
      rw [ho] at h
      rw [am_ev_go hd h]
      obtain ⟨v, S1, D1⟩ := r1
      rw [am_then_some]
      simp [hcc]
  · rw [am_if_f (fun hz => hcc (hc.mp hz.2.2.2))] at h
    rw [am_ev_no hd h]
    simp [hcc]
theorem am_ev_tab {d lo hi : Int} {offs : Array Int} {len : Nat} {x : Int32} (hd : decode cc pc = .ok (.tableswitch d lo hi offs, len)) (tgt : Int → Nat) (h : ∀ z : Int, lo ≤ z → z ≤ hi → ∃ off, offs[(z - lo).toNat]? = some off ∧ (pc : Int) + off = (tgt z : Int)) (dt : Nat) (h0 : (pc : Int) + d = (dt : Int)) : am_ev cal own cc pc ls (.int x :: st) S D r = if x.toInt < lo ∨ hi < x.toInt then am_ev cal own cc dt ls st S D r else am_ev cal own cc (tgt x.toInt) ls st S D r := by
  have e : am_nxt cal own (.tableswitch d lo hi offs) len pc ls (.int x :: st) S D = am_if (x.toInt < lo ∨ hi < x.toInt) (am_j pc d fun tgt => am_go tgt ls st S D) (match offs[(x.toInt - lo).toNat]? with
      | some off => am_j pc off fun tgt => am_go tgt ls st S D
      | none => none) := rfl
  by_cases hc : x.toInt < lo ∨ hi < x.toInt
  · rw [am_if_t hc, am_j_eq h0] at e
    rw [am_ev_go hd e, if_pos hc]
  · rw [am_if_f hc] at e
    obtain ⟨off, h1, h2⟩ := h x.toInt (by omega) (by omega)
    rw [h1] at e
    simp only at e
    rw [am_j_eq h2] at e
    rw [am_ev_go hd e, if_neg hc]
theorem am_ev_look {d : Int} {ps : Array (Int × Int)} {len : Nat} {x : Int32} (hd : decode cc pc = .ok (.lookupswitch d ps, len)) (ho : (ps.toList.zip (ps.toList.drop 1)).all (fun (a, next) => a.1 < next.1) = true) {tgt : Nat} (h : (pc : Int) + Op.lookupswitch.offset ps.toList d x.toInt = (tgt : Int)) : am_ev cal own cc pc ls (.int x :: st) S D r = am_ev cal own cc tgt ls st S D r := by
  have e : am_nxt cal own (.lookupswitch d ps) len pc ls (.int x :: st) S D = am_if ((ps.toList.zip (ps.toList.drop 1)).all (fun (a, next) => a.1 < next.1) = true) (am_j pc (Op.lookupswitch.offset ps.toList d x.toInt) fun tgt => am_go tgt ls st S D) none := rfl
  rw [am_if_t ho, am_j_eq h] at e
  exact am_ev_go hd e
end
