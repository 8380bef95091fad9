/-! ===== cells are only made ===== -/
def am_grow (S : am_S) (x : am_X) : Prop := match x with
  | .inl r => am_nx S ≤ am_nx r.2.1 ∧ am_sl S ≤ am_sl r.2.1
  | .inr y => am_nx S ≤ am_nx y.2.2.2.1 ∧ am_sl S ≤ am_sl y.2.2.2.1
def am_calm (cal : am_C) : Prop := ∀ j args S D r, cal j args S D = some r → am_nx S ≤ am_nx r.2.1 ∧ am_sl S ≤ am_sl r.2.1
theorem am_call_mono {cal : am_C} {kind j pc : Nat} {ls st : List Value} {S : am_S} {D : am_D} {x9 : am_X} (hc : am_calm cal) (h : am_call cal kind j pc ls st S D = some x9) : am_grow S x9 := by
  unfold am_call at h
  split at h
  · cases h
  · replace h := (am_if_n h).2
    split at h
    · cases h
    · rename_i r1 hr1
      cases am_is h
      exact hc _ _ _ _ _ hr1
set_option maxHeartbeats 4000000 in
theorem am_nxt_mono {cal : am_C} {own : Nat} {i : Jvm.ClassFile.Instr} {len pc : Nat} {ls st : List Value} {S : am_S} {D : am_D} {x9 : am_X} (hc : am_calm cal) (h : am_nxt cal own i len pc ls st S D = some x9) : am_grow S x9 := by
  cases i
  case iconst n => replace h := (am_q_inv h).2; cases am_is h; exact ⟨Nat.le_refl _, Nat.le_refl _⟩
  case bipush n => replace h := (am_q_inv h).2; cases am_is h; exact ⟨Nat.le_refl _, Nat.le_refl _⟩
  case sipush n => replace h := (am_q_inv h).2; cases am_is h; exact ⟨Nat.le_refl _, Nat.le_refl _⟩
  case lconst n => replace h := (am_q_inv h).2; cases am_is h; exact ⟨Nat.le_refl _, Nat.le_refl _⟩
  case iload k => replace h := (am_q_inv h).2; obtain ⟨_, _, h⟩ := am_gi_inv h; cases am_is h; exact ⟨Nat.le_refl _, Nat.le_refl _⟩
  case iload_n k => replace h := (am_q_inv h).2; obtain ⟨_, _, h⟩ := am_gi_inv h; cases am_is h; exact ⟨Nat.le_refl _, Nat.le_refl _⟩
  case lload k => replace h := (am_q_inv h).2; obtain ⟨_, _, h⟩ := am_gl_inv h; cases am_is h; exact ⟨Nat.le_refl _, Nat.le_refl _⟩
  case lload_n k => replace h := (am_q_inv h).2; obtain ⟨_, _, h⟩ := am_gl_inv h; cases am_is h; exact ⟨Nat.le_refl _, Nat.le_refl _⟩
  case aload k => replace h := (am_q_inv h).2; obtain ⟨_, _, h⟩ := am_gr_inv h; cases am_is h; exact ⟨Nat.le_refl _, Nat.le_refl _⟩
  case aload_n k => replace h := (am_q_inv h).2; obtain ⟨_, _, h⟩ := am_gr_inv h; cases am_is h; exact ⟨Nat.le_refl _, Nat.le_refl _⟩
  case istore k => replace h := (am_q_inv h).2; obtain ⟨_, _, _, h⟩ := am_i1_inv h; replace h := (am_if_n h).2; cases am_is h; exact ⟨Nat.le_refl _, Nat.le_refl _⟩
  case istore_n k => replace h := (am_q_inv h).2; obtain ⟨_, _, _, h⟩ := am_i1_inv h; replace h := (am_if_n h).2; cases am_is h; exact ⟨Nat.le_refl _, Nat.le_refl _⟩
  case lstore k => replace h := (am_q_inv h).2; obtain ⟨_, _, _, h⟩ := am_l1_inv h; replace h := (am_if_n h).2; cases am_is h; exact ⟨Nat.le_refl _, Nat.le_refl _⟩
  case lstore_n k => replace h := (am_q_inv h).2; obtain ⟨_, _, _, h⟩ := am_l1_inv h; replace h := (am_if_n h).2; cases am_is h; exact ⟨Nat.le_refl _, Nat.le_refl _⟩
  case astore k => replace h := (am_q_inv h).2; obtain ⟨_, _, _, h⟩ := am_r1_inv h; replace h := (am_if_n h).2; cases am_is h; exact ⟨Nat.le_refl _, Nat.le_refl _⟩
  case astore_n k => replace h := (am_q_inv h).2; obtain ⟨_, _, _, h⟩ := am_r1_inv h; replace h := (am_if_n h).2; cases am_is h; exact ⟨Nat.le_refl _, Nat.le_refl _⟩
  case iinc k n => replace h := (am_q_inv h).2; obtain ⟨_, _, h⟩ := am_gi_inv h; replace h := (am_if_n h).2; cases am_is h; exact ⟨Nat.le_refl _, Nat.le_refl _⟩
  case iadd => replace h := (am_q_inv h).2; obtain ⟨_, _, _, _, h⟩ := am_i2_inv h; cases am_is h; exact ⟨Nat.le_refl _, Nat.le_refl _⟩
  case isub => replace h := (am_q_inv h).2; obtain ⟨_, _, _, _, h⟩ := am_i2_inv h; cases am_is h; exact ⟨Nat.le_refl _, Nat.le_refl _⟩
  case imul => replace h := (am_q_inv h).2; obtain ⟨_, _, _, _, h⟩ := am_i2_inv h; cases am_is h; exact ⟨Nat.le_refl _, Nat.le_refl _⟩
  case iand => replace h := (am_q_inv h).2; obtain ⟨_, _, _, _, h⟩ := am_i2_inv h; cases am_is h; exact ⟨Nat.le_refl _, Nat.le_refl _⟩
  case ior => replace h := (am_q_inv h).2; obtain ⟨_, _, _, _, h⟩ := am_i2_inv h; cases am_is h; exact ⟨Nat.le_refl _, Nat.le_refl _⟩
  case ixor => replace h := (am_q_inv h).2; obtain ⟨_, _, _, _, h⟩ := am_i2_inv h; cases am_is h; exact ⟨Nat.le_refl _, Nat.le_refl _⟩
  case ishl => replace h := (am_q_inv h).2; obtain ⟨_, _, _, _, h⟩ := am_i2_inv h; cases am_is h; exact ⟨Nat.le_refl _, Nat.le_refl _⟩
  case ishr => replace h := (am_q_inv h).2; obtain ⟨_, _, _, _, h⟩ := am_i2_inv h; cases am_is h; exact ⟨Nat.le_refl _, Nat.le_refl _⟩
  case iushr => replace h := (am_q_inv h).2; obtain ⟨_, _, _, _, h⟩ := am_i2_inv h; cases am_is h; exact ⟨Nat.le_refl _, Nat.le_refl _⟩
  case idiv =>
    replace h := (am_q_inv h).2
    obtain ⟨_, _, _, _, h⟩ := am_i2_inv h
    rcases am_if_inv h with ⟨-, h⟩ | ⟨-, h⟩
    · cases h
    · cases am_is h; exact ⟨Nat.le_refl _, Nat.le_refl _⟩
  case irem =>
    replace h := (am_q_inv h).2
    obtain ⟨_, _, _, _, h⟩ := am_i2_inv h
    rcases am_if_inv h with ⟨-, h⟩ | ⟨-, h⟩
    · cases h
    · cases am_is h; exact ⟨Nat.le_refl _, Nat.le_refl _⟩
  case ldiv =>
    replace h := (am_q_inv h).2
    obtain ⟨_, _, _, _, h⟩ := am_l2_inv h
    rcases am_if_inv h with ⟨-, h⟩ | ⟨-, h⟩
    · cases h
    · cases am_is h; exact ⟨Nat.le_refl _, Nat.le_refl _⟩
  case lrem =>
    replace h := (am_q_inv h).2
    obtain ⟨_, _, _, _, h⟩ := am_l2_inv h
    rcases am_if_inv h with ⟨-, h⟩ | ⟨-, h⟩
    · cases h
    · cases am_is h; exact ⟨Nat.le_refl _, Nat.le_refl _⟩
  case ineg => replace h := (am_q_inv h).2; obtain ⟨_, _, _, h⟩ := am_i1_inv h; cases am_is h; exact ⟨Nat.le_refl _, Nat.le_refl _⟩
  case i2b => replace h := (am_q_inv h).2; obtain ⟨_, _, _, h⟩ := am_i1_inv h; cases am_is h; exact ⟨Nat.le_refl _, Nat.le_refl _⟩
  case i2s => replace h := (am_q_inv h).2; obtain ⟨_, _, _, h⟩ := am_i1_inv h; cases am_is h; exact ⟨Nat.le_refl _, Nat.le_refl _⟩
  case i2l => replace h := (am_q_inv h).2; obtain ⟨_, _, _, h⟩ := am_i1_inv h; cases am_is h; exact ⟨Nat.le_refl _, Nat.le_refl _⟩
  case l2i => replace h := (am_q_inv h).2; obtain ⟨_, _, _, h⟩ := am_l1_inv h; cases am_is h; exact ⟨Nat.le_refl _, Nat.le_refl _⟩
  case ladd => replace h := (am_q_inv h).2; obtain ⟨_, _, _, _, h⟩ := am_l2_inv h; cases am_is h; exact ⟨Nat.le_refl _, Nat.le_refl _⟩
  case lmul => replace h := (am_q_inv h).2; obtain ⟨_, _, _, _, h⟩ := am_l2_inv h; cases am_is h; exact ⟨Nat.le_refl _, Nat.le_refl _⟩
  case lcmp => replace h := (am_q_inv h).2; obtain ⟨_, _, _, _, h⟩ := am_l2_inv h; cases am_is h; exact ⟨Nat.le_refl _, Nat.le_refl _⟩
  case dup => replace h := (am_q_inv h).2; obtain ⟨_, _, _, h⟩ := am_v1_inv h; replace h := (am_if_n h).2; cases am_is h; exact ⟨Nat.le_refl _, Nat.le_refl _⟩
  case pop => replace h := (am_q_inv h).2; obtain ⟨_, _, _, h⟩ := am_v1_inv h; replace h := (am_if_n h).2; cases am_is h; exact ⟨Nat.le_refl _, Nat.le_refl _⟩
  case dup2 =>
    replace h := (am_q_inv h).2
    split at h
    · cases am_is h; exact ⟨Nat.le_refl _, Nat.le_refl _⟩
    · cases h
  case goto off => replace h := (am_q_inv h).2; obtain ⟨tgt, _, h⟩ := am_j_inv (pc := pc) (off := off) (f := fun tgt => am_go tgt ls st S D) h; cases am_is h; exact ⟨Nat.le_refl _, Nat.le_refl _⟩
  case ifCond cn off =>
    replace h := (am_q_inv h).2
    obtain ⟨x, t, _, h⟩ := am_i1_inv h
    obtain ⟨tgt, _, h⟩ := am_j_inv (pc := pc) (off := off) (f := fun tgt => am_if (am_cd cn x 0) (am_go tgt ls t S D) (am_go (pc + 3) ls t S D)) h
    rcases am_if_inv h with ⟨-, h⟩ | ⟨-, h⟩ <;> (cases am_is h; exact ⟨Nat.le_refl _, Nat.le_refl _⟩)
  case if_icmp cn off =>
    replace h := (am_q_inv h).2
    obtain ⟨y, x, t, _, h⟩ := am_i2_inv h
    obtain ⟨tgt, _, h⟩ := am_j_inv (pc := pc) (off := off) (f := fun tgt => am_if (am_cd cn x y) (am_go tgt ls t S D) (am_go (pc + 3) ls t S D)) h
    rcases am_if_inv h with ⟨-, h⟩ | ⟨-, h⟩ <;> (cases am_is h; exact ⟨Nat.le_refl _, Nat.le_refl _⟩)
  case tableswitch d lo hi offs =>
    obtain ⟨x, t, _, h⟩ := am_i1_inv h
    rcases am_if_inv h with ⟨-, h⟩ | ⟨-, h⟩
    · obtain ⟨tgt, _, h⟩ := am_j_inv h
      cases am_is h; exact ⟨Nat.le_refl _, Nat.le_refl _⟩
    · split at h
      · obtain ⟨tgt, _, h⟩ := am_j_inv h
        cases am_is h; exact ⟨Nat.le_refl _, Nat.le_refl _⟩
      · cases h
  case lookupswitch d ps =>
    obtain ⟨x, t, _, h⟩ := am_i1_inv h
    replace h := (am_if_n h).2
    obtain ⟨tgt, _, h⟩ := am_j_inv h
    cases am_is h; exact ⟨Nat.le_refl _, Nat.le_refl _⟩
  case ldc idx =>
    replace h := (am_q_inv h).2
    split at h
    · cases am_is h; exact ⟨Nat.le_refl _, Nat.le_refl _⟩
    · cases h
  case ldc_w idx =>
    replace h := (am_q_inv h).2
    split at h
    · cases am_is h; exact ⟨Nat.le_refl _, Nat.le_refl _⟩
    · cases h
  case ldc2_w idx =>
    replace h := (am_q_inv h).2
    split at h
    · cases am_is h; exact ⟨Nat.le_refl _, Nat.le_refl _⟩
    · cases h
  case getfield idx =>
    replace h := (am_q_inv h).2
    obtain ⟨a, t, _, h⟩ := am_r1_inv h
    split at h
    · replace h := (am_if_n h).2
      cases am_is h; exact ⟨Nat.le_refl _, Nat.le_refl _⟩
    · cases h
  case putfield idx =>
    replace h := (am_q_inv h).2
    split at h
    · replace h := (am_if_n h).2
      cases am_is h; exact ⟨Nat.le_refl _, Nat.le_refl _⟩
    · replace h := (am_if_n h).2
      cases am_is h; exact ⟨Nat.le_refl _, Nat.le_refl _⟩
    · replace h := (am_if_n h).2
      cases am_is h; exact ⟨Nat.le_refl _, Nat.le_refl _⟩
    · cases h
  case iaload =>
    replace h := (am_q_inv h).2
    split at h
    · replace h := (am_if_n h).2
      cases am_is h; exact ⟨Nat.le_refl _, Nat.le_refl _⟩
    · cases h
  case baload =>
    replace h := (am_q_inv h).2
    split at h
    · replace h := (am_if_n h).2
      cases am_is h; exact ⟨Nat.le_refl _, Nat.le_refl _⟩
    · cases h
  case aaload =>
    replace h := (am_q_inv h).2
    split at h
    · replace h := (am_if_n h).2
      cases am_is h; exact ⟨Nat.le_refl _, Nat.le_refl _⟩
    · cases h
  case iastore =>
    replace h := (am_q_inv h).2
    split at h
    · replace h := (am_if_n h).2
      cases am_is h; exact ⟨Nat.le_refl _, Nat.le_refl _⟩
    · cases h
  case bastore =>
    replace h := (am_q_inv h).2
    split at h
    · replace h := (am_if_n h).2
      cases am_is h; exact ⟨Nat.le_refl _, Nat.le_refl _⟩
    · cases h
  case aastore =>
    replace h := (am_q_inv h).2
    split at h
    · replace h := (am_if_n h).2
      cases am_is h; exact ⟨Nat.le_refl _, Nat.le_refl _⟩
    · cases h
  case arraylength =>
    replace h := (am_q_inv h).2
    obtain ⟨a, t, _, h⟩ := am_r1_inv h
    replace h := (am_if_n h).2
    cases am_is h; exact ⟨Nat.le_refl _, Nat.le_refl _⟩
  case new idx =>
    replace h := (am_q_inv h).2
    split at h
    · cases am_is h; exact ⟨Nat.le_succ _, Nat.le_add_right _ _⟩
    · cases h
  case newarray ty =>
    replace h := (am_q_inv h).2
    obtain ⟨n, t, _, h⟩ := am_i1_inv h
    replace h := (am_if_n h).2
    cases am_is h; exact ⟨Nat.le_succ _, Nat.le_add_right _ _⟩
  case anewarray idx =>
    replace h := (am_q_inv h).2
    obtain ⟨n, t, _, h⟩ := am_i1_inv h
    replace h := (am_if_n h).2
    cases am_is h; exact ⟨Nat.le_succ _, Nat.le_add_right _ _⟩
  case multianewarray idx dm =>
    have hdm : dm = 2 := by
      by_cases e2 : dm = 2
      · exact e2
      · exfalso
        unfold am_nxt at h
        split at h <;> first | (rename_i e9; cases e9; exact e2 rfl) | cases h | (rename_i e9; cases e9)
    subst hdm
    replace h := (am_q_inv h).2
    obtain ⟨k, n, t, _, h⟩ := am_i2_inv h
    replace h := (am_if_n h).2
    cases am_is h
    exact ⟨by show am_nx S ≤ am_nx S + 1 + _; omega, by show am_sl S ≤ am_sl S + _ + _; omega⟩
  case invokevirtual idx =>
    replace h := (am_q_inv h).2
    split at h
    · exact am_call_mono hc h
    · cases h
  case invokestatic idx =>
    replace h := (am_q_inv h).2
    split at h
    · unfold am_copy at h
      split at h
      · replace h := (am_if_n h).2
        cases am_is h; exact ⟨Nat.le_refl _, Nat.le_refl _⟩
      · cases h
    · obtain ⟨y, x, t, _, h⟩ := am_i2_inv h
      replace h := (am_if_n h).2
      cases am_is h; exact ⟨Nat.le_refl _, Nat.le_refl _⟩
    · obtain ⟨y, x, t, _, h⟩ := am_i2_inv h
      replace h := (am_if_n h).2
      cases am_is h; exact ⟨Nat.le_refl _, Nat.le_refl _⟩
    · exact am_call_mono hc h
    · cases h
  case invokespecial idx =>
    replace h := (am_q_inv h).2
    split at h
    · obtain ⟨a, t, _, h⟩ := am_r1_inv h
      replace h := (am_if_n h).2
      cases am_is h; exact ⟨Nat.le_refl _, Nat.le_refl _⟩
    · exact am_call_mono hc h
    · cases h
  case ireturn =>
    replace h := (am_q_inv h).2
    split at h
    · cases am_is h; exact ⟨Nat.le_refl _, Nat.le_refl _⟩
    · cases h
  case return_ =>
    replace h := (am_q_inv h).2
    split at h
    · cases am_is h; exact ⟨Nat.le_refl _, Nat.le_refl _⟩
    · cases h
  all_goals (have h2 : (none : Option am_X) = some x9 := h; cases h2)
theorem am_exec_mono {cal : am_C} {own : Nat} {cc : ByteArray} {r : am_R} (hc : am_calm cal) : ∀ (n pc : Nat) (ls st : List Value) (S : am_S) (D : am_D), am_exec cal own cc n pc ls st S D = some r → am_nx S ≤ am_nx r.2.1 ∧ am_sl S ≤ am_sl r.2.1 := by
  intro n
  induction n with
  | zero => intro pc ls st S D h; cases h
  | succ n ih =>
    intro pc ls st S D h
    unfold am_exec at h
    split at h
    · rename_i i len hd
      split at h
      · rename_i r1 h1
        cases h
        exact am_nxt_mono hc h1
      · rename_i pc' ls' st' S' D' h1
        have h2 := am_nxt_mono hc h1
        have h3 := ih _ _ _ _ _ h
        exact ⟨Nat.le_trans h2.1 h3.1, Nat.le_trans h2.2 h3.2⟩
      · cases h
    · cases h
theorem am_sem_calm (d : Nat) : am_calm (am_sem d) := by
  intro j args S D r h
  obtain ⟨d', M, -, -, -, -, h1, h2, -, -⟩ := am_sem_inv h
  exact ⟨by omega, by omega⟩
/-! ===== one run, one end ===== -/
theorem am_exec_up {cal : am_C} {own : Nat} {cc : ByteArray} {r : am_R} : ∀ (n pc : Nat) (ls st : List Value) (S : am_S) (D : am_D), am_exec cal own cc n pc ls st S D = some r → ∀ k, am_exec cal own cc (n + k) pc ls st S D = some r := by
  intro n
  induction n with
  | zero => intro pc ls st S D h; cases h
  | succ n ih =>
    intro pc ls st S D h k
    rw [show n + 1 + k = (n + k) + 1 by omega]
    unfold am_exec at h ⊢
    cases hd : decode cc pc with
    | error _ => rw [hd] at h; cases h
    | ok z =>
      rw [hd] at h
      obtain ⟨i, len⟩ := z
      simp only at h ⊢
      cases h1 : am_nxt cal own i len pc ls st S D with
      | none => rw [h1] at h; cases h
      | some x =>
        rw [h1] at h
        cases x with
        | inl r1 => exact h
        | inr y => exact ih _ _ _ _ _ h k
theorem am_ev_one {cal : am_C} {own : Nat} {cc : ByteArray} {pc : Nat} {ls st : List Value} {S : am_S} {D : am_D} {r r' : am_R} (h : am_ev cal own cc pc ls st S D r) (h' : am_ev cal own cc pc ls st S D r') : r = r' := by
  obtain ⟨n, h⟩ := h
  obtain ⟨n', h'⟩ := h'
  have h1 := am_exec_up n _ _ _ _ _ h n'
  have h2 := am_exec_up n' _ _ _ _ _ h' n
  rw [Nat.add_comm n' n, h1] at h2
  exact Option.some.inj h2
/-- what a run comes to is what the method answers -/
theorem am_sem_of {d j : Nat} {args : List Value} {S : am_S} {D : am_D} {r : am_R} {M : MethodName × ByteArray × Nat × Option FieldType × Nat × Nat × Nat × Nat × Nat} (hM : am_M[j]? = some M) (h : am_run (am_sem d) M args S D r) : am_sem (d + 1) j args S D = some r := by
  simp only [am_sem, hM]
  rw [dif_pos ⟨r, h⟩]
  have h1 := Classical.choose_spec (p := fun r => am_run (am_sem d) M args S D r) ⟨r, h⟩
  exact congrArg some (am_ev_one h1.2.2.2.2.2 h.2.2.2.2.2)
