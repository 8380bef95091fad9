/-- own: the class's number, and 100 more in a constructor -/
def am_lu {α : Type} (T : List (Nat × α)) (own idx : Nat) : Option α := if idx < 1000 then T.lookup (own % 100 * 1000 + idx) else none
theorem am_lookup_mem {α : Type} {v : α} {k : Nat} : ∀ {T : List (Nat × α)}, T.lookup k = some v → (k, v) ∈ T
  | [], h => by cases h
  | (a, b) :: T, h => by
    by_cases e : k = a
    · subst e
      rw [List.lookup_cons_self] at h
      cases h
      exact List.mem_cons_self
    · rw [List.lookup_cons, beq_eq_false_iff_ne.mpr e] at h
      exact List.mem_cons_of_mem _ (am_lookup_mem h)
theorem am_lu_mem {α : Type} {T : List (Nat × α)} {own idx : Nat} {v : α} (h : am_lu T own idx = some v) : idx < 1000 ∧ (own % 100 * 1000 + idx, v) ∈ T := by
  unfold am_lu at h
  split at h
  · rename_i hi
    exact ⟨hi, am_lookup_mem h⟩
  · cases h
def am_fl (own idx : Nat) : Option (Nat × Nat × Nat) := am_lu am_fT own idx
def am_lk (own idx : Nat) : Option (Nat × Nat) := am_lu am_lT own idx
/-- what a field holds -/
def am_fv (S : am_S) (D : am_D) (a k t : Nat) : Value := if t = 2 then va_rf (am_rf S a k) else .int (D a k)
/-- a call of method j: the arguments lie on the stack, the last on top -/
noncomputable def am_call (cal : am_C) (kind : Nat) (j pc : Nat) (ls st : List Value) (S : am_S) (D : am_D) : Option am_X := match am_M[j]? with
  | none => none
  | some M => am_if (M.2.2.2.2.2.1 = kind ∧ M.2.2.2.2.2.2.1 ≤ st.length ∧ (st.drop M.2.2.2.2.2.2.1).length ≤ 4 ∧ (kind = 0 ∨ ∃ a, (st.take M.2.2.2.2.2.2.1).reverse.head? = some (.ref a) ∧ am_kd S a = M.2.2.2.2.1 + 5))
      (match cal j (st.take M.2.2.2.2.2.2.1).reverse S D with
      | none => none
      | some r => am_go (pc + 3) ls (r.1.toList ++ st.drop M.2.2.2.2.2.2.1) r.2.1 r.2.2) none
noncomputable def am_copy (pc : Nat) (ls st : List Value) (S : am_S) (D : am_D) : Option am_X := match st with
  | .int n :: .int dp :: .ref b :: .int sp :: .ref a :: t => am_if (am_kd S a = 1 ∧ am_kd S b = 1 ∧ ¬ sp < 0 ∧ ¬ dp < 0 ∧ ¬ n < 0 ∧ sp.toNatClampNeg + n.toNatClampNeg ≤ am_ln S a ∧ dp.toNatClampNeg + n.toNatClampNeg ≤ am_ln S b ∧ t.length ≤ 4)
      (am_go (pc + 3) ls t S (am_cp D a sp.toNatClampNeg b dp.toNatClampNeg n.toNatClampNeg)) none
  | _ => none
noncomputable def am_nxt (cal : am_C) (own : Nat) (i : Jvm.ClassFile.Instr) (len pc : Nat) (ls st : List Value) (S : am_S) (D : am_D) : Option am_X := match i with
  | .iconst n => am_q len 1 (am_go (pc + 1) ls (.int (Int32.ofInt n) :: st) S D)
  | .bipush n => am_q len 2 (am_go (pc + 2) ls (.int (Int8.ofInt n).toInt32 :: st) S D)
  | .sipush n => am_q len 3 (am_go (pc + 3) ls (.int (Int16.ofInt n).toInt32 :: st) S D)
  | .ldc idx => am_q len 2 (match am_lu am_cT own idx with
    | some v => am_go (pc + 2) ls (.int v :: st) S D
    | none => none)
  | .ldc_w idx => am_q len 3 (match am_lu am_cT own idx with
    | some v => am_go (pc + 3) ls (.int v :: st) S D
    | none => none)
  | .ldc2_w idx => am_q len 3 (match am_lu am_dT own idx with
    | some v => am_go (pc + 3) ls (.long v :: st) S D
    | none => none)
  | .lconst n => am_q len 1 (am_go (pc + 1) ls (.long (Int64.ofNat (n : Nat)) :: st) S D)
  | .iload i => am_q len 2 (am_gi ls i fun x => am_go (pc + 2) ls (.int x :: st) S D)
  | .iload_n i => am_q len 1 (am_gi ls i fun x => am_go (pc + 1) ls (.int x :: st) S D)
  | .lload i => am_q len 2 (am_gl ls i fun x => am_go (pc + 2) ls (.long x :: st) S D)
  | .lload_n i => am_q len 1 (am_gl ls i fun x => am_go (pc + 1) ls (.long x :: st) S D)
  | .aload i => am_q len 2 (am_gr ls i fun x => am_go (pc + 2) ls (.ref x :: st) S D)
  | .aload_n i => am_q len 1 (am_gr ls i fun x => am_go (pc + 1) ls (.ref x :: st) S D)
  | .istore i => am_q len 2 (am_i1 st fun x t => am_if (am_so ls i) (am_go (pc + 2) (ls.set i (.int x)) t S D) none)
  | .istore_n i => am_q len 1 (am_i1 st fun x t => am_if (am_so ls i) (am_go (pc + 1) (ls.set i (.int x)) t S D) none)
  | .lstore i => am_q len 2 (am_l1 st fun x t => am_if (am_so ls i ∧ i + 1 < ls.length) (am_go (pc + 2) ((ls.set i (.long x)).set (i + 1) (.retAddr 0)) t S D) none)
  | .lstore_n i => am_q len 1 (am_l1 st fun x t => am_if (am_so ls i ∧ i + 1 < ls.length) (am_go (pc + 1) ((ls.set i (.long x)).set (i + 1) (.retAddr 0)) t S D) none)
  | .astore i => am_q len 2 (am_r1 st fun x t => am_if (am_so ls i) (am_go (pc + 2) (ls.set i (.ref x)) t S D) none)
  | .astore_n i => am_q len 1 (am_r1 st fun x t => am_if (am_so ls i) (am_go (pc + 1) (ls.set i (.ref x)) t S D) none)
  | .iinc i n => am_q len 3 (am_gi ls i fun x => am_if (am_so ls i) (am_go (pc + 3) (ls.set i (.int (x + Int32.ofInt n))) st S D) none)
  | .iadd => am_q len 1 (am_i2 st fun y x t => am_go (pc + 1) ls (.int (x + y) :: t) S D)
  | .isub => am_q len 1 (am_i2 st fun y x t => am_go (pc + 1) ls (.int (x - y) :: t) S D)
  | .imul => am_q len 1 (am_i2 st fun y x t => am_go (pc + 1) ls (.int (x * y) :: t) S D)
  | .iand => am_q len 1 (am_i2 st fun y x t => am_go (pc + 1) ls (.int (x &&& y) :: t) S D)
  | .ior => am_q len 1 (am_i2 st fun y x t => am_go (pc + 1) ls (.int (x ||| y) :: t) S D)
  | .ixor => am_q len 1 (am_i2 st fun y x t => am_go (pc + 1) ls (.int (x ^^^ y) :: t) S D)
  | .ishl => am_q len 1 (am_i2 st fun y x t => am_go (pc + 1) ls (.int (x <<< (y &&& 31)) :: t) S D)
  | .ishr => am_q len 1 (am_i2 st fun y x t => am_go (pc + 1) ls (.int (x >>> (y &&& 31)) :: t) S D)
  | .iushr => am_q len 1 (am_i2 st fun y x t => am_go (pc + 1) ls (.int (x.toUInt32 >>> (y.toUInt32 &&& Int32.toUInt32 31)).toInt32 :: t) S D)
  | .idiv => am_q len 1 (am_i2 st fun y x t => am_if (y = 0) (none) (am_go (pc + 1) ls (.int (x / y) :: t) S D))
  | .irem => am_q len 1 (am_i2 st fun y x t => am_if (y = 0) (none) (am_go (pc + 1) ls (.int (x - x / y * y) :: t) S D))
  | .ineg => am_q len 1 (am_i1 st fun x t => am_go (pc + 1) ls (.int (-x) :: t) S D)
  | .i2b => am_q len 1 (am_i1 st fun x t => am_go (pc + 1) ls (.int x.toInt8.toInt32 :: t) S D)
  | .i2s => am_q len 1 (am_i1 st fun x t => am_go (pc + 1) ls (.int x.toInt16.toInt32 :: t) S D)
  | .i2l => am_q len 1 (am_i1 st fun x t => am_go (pc + 1) ls (.long x.toInt64 :: t) S D)
  | .l2i => am_q len 1 (am_l1 st fun x t => am_go (pc + 1) ls (.int x.toInt32 :: t) S D)
  | .ladd => am_q len 1 (am_l2 st fun y x t => am_go (pc + 1) ls (.long (x + y) :: t) S D)
  | .lmul => am_q len 1 (am_l2 st fun y x t => am_go (pc + 1) ls (.long (x * y) :: t) S D)
  | .ldiv => am_q len 1 (am_l2 st fun y x t => am_if (y = 0) (none) (am_go (pc + 1) ls (.long (x / y) :: t) S D))
  | .lrem => am_q len 1 (am_l2 st fun y x t => am_if (y = 0) (none) (am_go (pc + 1) ls (.long (x - x / y * y) :: t) S D))
  | .lcmp => am_q len 1 (am_l2 st fun y x t => am_go (pc + 1) ls (.int (lg_cmp x y) :: t) S D)
  | .dup => am_q len 1 (am_v1 st fun v t => am_if (v.category = 1) (am_go (pc + 1) ls (v :: v :: t) S D) none)
  | .dup2 => am_q len 1 (match st with
    | .int i :: .ref a :: t => am_go (pc + 1) ls (.int i :: .ref a :: .int i :: .ref a :: t) S D
    | _ => none)
  | .pop => am_q len 1 (am_v1 st fun v t => am_if (v.category = 1) (am_go (pc + 1) ls t S D) none)
  | .goto off => am_q len 3 (am_j pc off fun tgt => am_go tgt ls st S D)
  | .ifCond c off => am_q len 3 (am_i1 st fun x t => am_j pc off fun tgt => am_if (am_cd c x 0) (am_go tgt ls t S D) (am_go (pc + 3) ls t S D))
  | .if_icmp c off => am_q len 3 (am_i2 st fun y x t => am_j pc off fun tgt => am_if (am_cd c x y) (am_go tgt ls t S D) (am_go (pc + 3) ls t S D))
  | .tableswitch d lo hi offs => am_i1 st fun x t => am_if (x.toInt < lo ∨ hi < x.toInt) (am_j pc d fun tgt => am_go tgt ls t S D)
      (match offs[(x.toInt - lo).toNat]? with
      | some off => am_j pc off fun tgt => am_go tgt ls t S D
      | none => none)
  | .lookupswitch d ps => am_i1 st fun x t => am_if ((ps.toList.zip (ps.toList.drop 1)).all (fun (a, next) => a.1 < next.1) = true) (am_j pc (Op.lookupswitch.offset ps.toList d x.toInt) fun tgt => am_go tgt ls t S D) none
  | .getfield idx => am_q len 3 (am_r1 st fun a t => match am_fl own idx with
    | some (ci, k, so) => am_if (am_kd S a = ci + 5) (am_go (pc + 3) ls (am_fv S D a k so :: t) S D) none
    | none => none)
  | .putfield idx => am_q len 3 (match am_fl own idx, st with
    | some (ci, k, 0), .int x :: .ref a :: t => am_if (am_kd S a = ci + 5) (am_go (pc + 3) ls t S (am_wr D a k x)) none
    | some (ci, k, 1), .int x :: .ref a :: t => am_if (am_kd S a = ci + 5 ∧ (x = 0 ∨ x = 1)) (am_go (pc + 3) ls t S (am_wr D a k x)) none
    | some (ci, k, 2), .ref b :: .ref a :: t => am_if (am_kd S a = ci + 5 ∧ am_kd S b ≠ 0 ∧ own = ci + 100) (am_go (pc + 3) ls t (am_wf S a k (some b)) D) none
    | _, _ => none)
  | .iaload => am_q len 1 (match st with
    | .int i :: .ref a :: t => am_if (am_kd S a = 1 ∧ vp_in i (am_ln S a)) (am_go (pc + 1) ls (.int (D a i.toNatClampNeg) :: t) S D) none
    | _ => none)
  | .baload => am_q len 1 (match st with
    | .int i :: .ref a :: t => am_if (am_kd S a = 2 ∧ vp_in i (am_ln S a)) (am_go (pc + 1) ls (.int (D a i.toNatClampNeg) :: t) S D) none
    | _ => none)
  | .aaload => am_q len 1 (match st with
    | .int i :: .ref a :: t => am_if ((am_kd S a = 3 ∨ am_kd S a = 4) ∧ vp_in i (am_ln S a)) (am_go (pc + 1) ls (va_rf (am_rf S a i.toNatClampNeg) :: t) S D) none
    | _ => none)
  | .iastore => am_q len 1 (match st with
    | .int x :: .int i :: .ref a :: t => am_if (am_kd S a = 1 ∧ vp_in i (am_ln S a)) (am_go (pc + 1) ls t S (am_wr D a i.toNatClampNeg x)) none
    | _ => none)
  | .bastore => am_q len 1 (match st with
    | .int x :: .int i :: .ref a :: t => am_if (am_kd S a = 2 ∧ vp_in i (am_ln S a) ∧ (x = 0 ∨ x = 1)) (am_go (pc + 1) ls t S (am_wr D a i.toNatClampNeg x)) none
    | _ => none)
  | .aastore => am_q len 1 (match st with
    | .ref b :: .int i :: .ref a :: t => am_if (am_kd S a = 3 ∧ am_kd S b = 8 ∧ vp_in i (am_ln S a)) (am_go (pc + 1) ls t (am_wf S a i.toNatClampNeg (some b)) D) none
    | _ => none)
  | .arraylength => am_q len 1 (am_r1 st fun a t => am_if (am_kd S a = 1) (am_go (pc + 1) ls (.int (nI (am_ln S a)) :: t) S D) none)
  | .new idx => am_q len 3 (match am_lu am_nT own idx with
    | some ci => am_go (pc + 3) ls (.ref (am_nx S) :: st) (am_nw S (ci + 5) (am_nf ci)) (am_zr D (am_nx S))
    | none => none)
  | .newarray ty => am_q len 2 (am_i1 st fun n t => am_if (¬ n < 0 ∧ n.toNatClampNeg ≤ 100000 ∧ (ty = .int ∨ ty = .boolean)) (am_go (pc + 2) ls (.ref (am_nx S) :: t) (am_nw S (if ty = .int then 1 else 2) n.toNatClampNeg) (am_zr D (am_nx S))) none)
  | .anewarray idx => am_q len 3 (am_i1 st fun n t => am_if (am_lu am_nT own idx = some 3 ∧ ¬ n < 0 ∧ n.toNatClampNeg ≤ 100000) (am_go (pc + 3) ls (.ref (am_nx S) :: t) (am_nw S 3 n.toNatClampNeg) (am_zr D (am_nx S))) none)
  | .multianewarray idx 2 => am_q len 4 (am_i2 st fun k n t => am_if (own = 106 ∧ idx = 18 ∧ ¬ n < 0 ∧ ¬ k < 0 ∧ n.toNatClampNeg ≤ 1000 ∧ k.toNatClampNeg ≤ 1000) (am_go (pc + 4) ls (.ref (am_nx S) :: t) (am_mw S n.toNatClampNeg k.toNatClampNeg) (am_zs D (am_nx S) (1 + n.toNatClampNeg))) none)
  | .invokevirtual idx => am_q len 3 (match am_lk own idx with
    | some (j + 4, 0) => am_call cal 1 j pc ls st S D
    | _ => none)
  | .invokestatic idx => am_q len 3 (match am_lk own idx with
    | some (1, 0) => am_copy pc ls st S D
    | some (2, 0) => am_i2 st fun y x t => am_if (t.length ≤ 4) (am_go (pc + 3) ls (.int (if x < y then y else x) :: t) S D) none
    | some (3, 0) => am_i2 st fun y x t => am_if (t.length ≤ 4) (am_go (pc + 3) ls (.int (if y < x then y else x) :: t) S D) none
    | some (j + 4, _) => am_call cal 0 j pc ls st S D
    | _ => none)
  | .invokespecial idx => am_q len 3 (match am_lk own idx with
    | some (0, 0) => am_r1 st fun _ t => am_if (t.length ≤ 4) (am_go (pc + 3) ls t S D) none
    | some (j + 4, _) => am_call cal 2 j pc ls st S D
    | _ => none)
  | .ireturn => am_q len 1 (match st with
    | [.int x] => some (.inl (some (.int x), S, D))
    | _ => none)
  | .return_ => am_q len 1 (match st with
    | [] => some (.inl (none, S, D))
    | _ => none)
  | _ => none
noncomputable def am_exec (cal : am_C) (own : Nat) (cc : ByteArray) : Nat → Nat → List Value → List Value → am_S → am_D → Option am_R
  | 0, _, _, _, _, _ => none
  | n + 1, pc, ls, st, S, D => match decode cc pc with
    | .ok (i, len) => (match am_nxt cal own i len pc ls st S D with
      | some (.inl r) => some r
      | some (.inr (pc', ls', st', S', D')) => am_exec cal own cc n pc' ls' st' S' D'
      | none => none)
    | .error _ => none
/-- from this point the method comes to its end with r -/
def am_ev (cal : am_C) (own : Nat) (cc : ByteArray) (pc : Nat) (ls st : List Value) (S : am_S) (D : am_D) (r : am_R) : Prop := ∃ n, am_exec cal own cc n pc ls st S D = some r
/-- the arguments in the locals -/
def am_lay : List Value → List Value
  | [] => []
  | .long x :: t => .long x :: .retAddr 0 :: am_lay t
  | .double x :: t => .double x :: .retAddr 0 :: am_lay t
  | v :: t => v :: am_lay t
/-- what an answer must be, by the type that the method tells -/
def am_okr (ret : Option FieldType) (v : Option Value) : Prop := (ret = none ∧ v = none) ∨ (∃ x, ret = some .int ∧ v = some (.int x)) ∨ (∃ x, ret = some .boolean ∧ v = some (.int x) ∧ (x = 0 ∨ x = 1))
/-- a run of method j to its end -/
def am_run (cal : am_C) (M : MethodName × ByteArray × Nat × Option FieldType × Nat × Nat × Nat × Nat × Nat) (args : List Value) (S : am_S) (D : am_D) (r : am_R) : Prop :=
  (am_lay args).length ≤ M.2.2.1 ∧ args.length = M.2.2.2.2.2.2.1 ∧ am_nx r.2.1 = am_nx S + M.2.2.2.2.2.2.2.1 ∧ am_sl r.2.1 = am_sl S + M.2.2.2.2.2.2.2.2 ∧ am_okr M.2.2.2.1 r.1 ∧ am_ev cal (M.2.2.2.2.1 + (if M.2.2.2.2.2.1 = 2 then 100 else 0)) M.2.1 0 (am_lay args ++ List.replicate (M.2.2.1 - (am_lay args).length) (.retAddr 0)) [] S D r
/-- what method j answers: d calls may stand open below it -/
noncomputable def am_sem : Nat → am_C
  | 0 => fun _ _ _ _ => none
  | d + 1 => fun j args S D => match am_M[j]? with
    | none => none
    | some M => @dite _ (∃ r, am_run (am_sem d) M args S D r) (Classical.propDecidable _) (fun h => some (Classical.choose h)) (fun _ => none)
theorem am_sem_inv {d j : Nat} {args : List Value} {S : am_S} {D : am_D} {r : am_R} (h : am_sem d j args S D = some r) : ∃ d' M, d = d' + 1 ∧ am_M[j]? = some M ∧ am_run (am_sem d') M args S D r := by
  cases d with
  | zero => cases h
  | succ d =>
    simp only [am_sem] at h
    cases hM : am_M[j]? with
    | none => rw [hM] at h; cases h
    | some M =>
      rw [hM] at h
      by_cases he : ∃ r, am_run (am_sem d) M args S D r
      · simp only [dif_pos he] at h
        cases h
        exact ⟨d, M, rfl, rfl, Classical.choose_spec he⟩
      · simp only [dif_neg he] at h
        cases h
/-! ===== what a step that goes on says ===== -/
theorem am_q_inv {len w : Nat} {o : Option am_X} {r : am_X} (h : am_q len w o = some r) : len = w ∧ o = some r := by
  unfold am_q at h
  by_cases e : len = w
  · rw [if_pos e] at h; exact ⟨e, h⟩
  · rw [if_neg e] at h; cases h
theorem am_if_inv {c : Prop} {a b : Option am_X} {r : am_X} (h : am_if c a b = some r) : (c ∧ a = some r) ∨ (¬ c ∧ b = some r) := by
  by_cases e : c
  · rw [am_if_t e] at h; exact Or.inl ⟨e, h⟩
  · rw [am_if_f e] at h; exact Or.inr ⟨e, h⟩
theorem am_if_n {c : Prop} {a : Option am_X} {r : am_X} (h : am_if c a none = some r) : c ∧ a = some r := by
  rcases am_if_inv h with h | h
  · exact h
  · cases h.2
theorem am_i1_inv {st : List Value} {f : Int32 → List Value → Option am_X} {r : am_X} (h : am_i1 st f = some r) : ∃ x t, st = .int x :: t ∧ f x t = some r := by
  unfold am_i1 at h
  split at h
  · exact ⟨_, _, rfl, h⟩
  · cases h
theorem am_i2_inv {st : List Value} {f : Int32 → Int32 → List Value → Option am_X} {r : am_X} (h : am_i2 st f = some r) : ∃ y x t, st = .int y :: .int x :: t ∧ f y x t = some r := by
  unfold am_i2 at h
  split at h
  · exact ⟨_, _, _, rfl, h⟩
  · cases h
theorem am_l1_inv {st : List Value} {f : Int64 → List Value → Option am_X} {r : am_X} (h : am_l1 st f = some r) : ∃ x t, st = .long x :: t ∧ f x t = some r := by
  unfold am_l1 at h
  split at h
  · exact ⟨_, _, rfl, h⟩
  · cases h
theorem am_l2_inv {st : List Value} {f : Int64 → Int64 → List Value → Option am_X} {r : am_X} (h : am_l2 st f = some r) : ∃ y x t, st = .long y :: .long x :: t ∧ f y x t = some r := by
  unfold am_l2 at h
  split at h
  · exact ⟨_, _, _, rfl, h⟩
  · cases h
theorem am_r1_inv {st : List Value} {f : Nat → List Value → Option am_X} {r : am_X} (h : am_r1 st f = some r) : ∃ x t, st = .ref x :: t ∧ f x t = some r := by
  unfold am_r1 at h
  split at h
  · exact ⟨_, _, rfl, h⟩
  · cases h
theorem am_v1_inv {st : List Value} {f : Value → List Value → Option am_X} {r : am_X} (h : am_v1 st f = some r) : ∃ x t, st = x :: t ∧ f x t = some r := by
  unfold am_v1 at h
  split at h
  · exact ⟨_, _, rfl, h⟩
  · cases h
theorem am_gi_inv {ls : List Value} {i : Nat} {f : Int32 → Option am_X} {r : am_X} (h : am_gi ls i f = some r) : ∃ x, ls[i]? = some (.int x) ∧ f x = some r := by
  unfold am_gi at h
  split at h
  · rename_i x hx
    exact ⟨x, hx, h⟩
  · cases h
theorem am_gl_inv {ls : List Value} {i : Nat} {f : Int64 → Option am_X} {r : am_X} (h : am_gl ls i f = some r) : ∃ x, ls[i]? = some (.long x) ∧ f x = some r := by
  unfold am_gl at h
  split at h
  · rename_i x hx
    exact ⟨x, hx, h⟩
  · cases h
theorem am_gr_inv {ls : List Value} {i : Nat} {f : Nat → Option am_X} {r : am_X} (h : am_gr ls i f = some r) : ∃ x, ls[i]? = some (.ref x) ∧ f x = some r := by
  unfold am_gr at h
  split at h
  · rename_i x hx
    exact ⟨x, hx, h⟩
  · cases h
theorem am_j_inv {pc : Nat} {off : Int} {f : Nat → Option am_X} {r : am_X} (h : am_j pc off f = some r) : ∃ tgt : Nat, (pc : Int) + off = (tgt : Int) ∧ f tgt = some r := by
  unfold am_j at h
  split at h
  · rename_i hp
    exact ⟨_, (Int.toNat_of_nonneg hp).symm, h⟩
  · cases h
theorem am_is {α : Type} {a b : α} (h : some a = some b) : b = a := (Option.some.inj h).symm
