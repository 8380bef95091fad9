/-! ===== the abstract machine: places for addresses, a shape S (kinds, lengths, references, next place, slots), data D ===== -/
abbrev am_S : Type := (Nat → Nat) × (Nat → Nat) × (Nat → Nat → Option Nat) × Nat × Nat
abbrev am_D : Type := Nat → Nat → Int32
abbrev am_R : Type := Option Value × am_S × am_D
abbrev am_C : Type := Nat → List Value → am_S → am_D → Option am_R
/-- behind a step: the end, or a point to go on from -/
abbrev am_X : Type := am_R ⊕ (Nat × List Value × List Value × am_S × am_D)
def am_go (pc : Nat) (ls st : List Value) (S : am_S) (D : am_D) : Option am_X := some (.inr (pc, ls, st, S, D))
def am_kd (S : am_S) (a : Nat) : Nat := S.1 a
def am_ln (S : am_S) (a : Nat) : Nat := S.2.1 a
def am_rf (S : am_S) (a k : Nat) : Option Nat := S.2.2.1 a k
def am_nx (S : am_S) : Nat := S.2.2.2.1
def am_sl (S : am_S) : Nat := S.2.2.2.2
/-- D, but x at index k of place a -/
def am_wr (D : am_D) (a k : Nat) (x : Int32) : am_D := fun b i => if b = a ∧ i = k then x else D b i
/-- n ints of a from sp on come to b from dp on -/
def am_cp (D : am_D) (a sp b dp n : Nat) : am_D := fun q i => if q = b then va_cpy (D a) (D b) sp dp n i else D q i
def am_zr (D : am_D) (a : Nat) : am_D := fun b i => if b = a then 0 else D b i
def am_zs (D : am_D) (a n : Nat) : am_D := fun b i => if a ≤ b ∧ b < a + n then 0 else D b i
def am_wf (S : am_S) (a k : Nat) (o : Option Nat) : am_S := (S.1, S.2.1, fun b i => if b = a ∧ i = k then o else S.2.2.1 b i, S.2.2.2.1, S.2.2.2.2)
/-- a new cell of kind k with n slots, at the next place -/
def am_nw (S : am_S) (k n : Nat) : am_S := (fun a => if a = S.2.2.2.1 then k else S.1 a, fun a => if a = S.2.2.2.1 then n else S.2.1 a, fun a i => if a = S.2.2.2.1 then none else S.2.2.1 a i, S.2.2.2.1 + 1, S.2.2.2.2 + n)
/-- n new int rows of k ints behind a new array of them -/
def am_mw (S : am_S) (n k : Nat) : am_S := (fun a => if a = S.2.2.2.1 then 4 else if S.2.2.2.1 < a ∧ a < S.2.2.2.1 + 1 + n then 1 else S.1 a, fun a => if a = S.2.2.2.1 then n else if S.2.2.2.1 < a ∧ a < S.2.2.2.1 + 1 + n then k else S.2.1 a, fun a i => if a = S.2.2.2.1 then (if i < n then some (S.2.2.2.1 + 1 + i) else none) else S.2.2.1 a i, S.2.2.2.1 + 1 + n, S.2.2.2.2 + n + n * k)
def am_q (len w : Nat) (o : Option am_X) : Option am_X := if len = w then o else none
def am_i1 (st : List Value) (f : Int32 → List Value → Option am_X) : Option am_X := match st with
  | .int x :: t => f x t
  | _ => none
def am_i2 (st : List Value) (f : Int32 → Int32 → List Value → Option am_X) : Option am_X := match st with
  | .int y :: .int x :: t => f y x t
  | _ => none
def am_l1 (st : List Value) (f : Int64 → List Value → Option am_X) : Option am_X := match st with
  | .long x :: t => f x t
  | _ => none
def am_l2 (st : List Value) (f : Int64 → Int64 → List Value → Option am_X) : Option am_X := match st with
  | .long y :: .long x :: t => f y x t
  | _ => none
def am_r1 (st : List Value) (f : Nat → List Value → Option am_X) : Option am_X := match st with
  | .ref a :: t => f a t
  | _ => none
def am_v1 (st : List Value) (f : Value → List Value → Option am_X) : Option am_X := match st with
  | v :: t => f v t
  | _ => none
/-- locals: .retAddr stands for what is not known -/
def am_gi (ls : List Value) (i : Nat) (f : Int32 → Option am_X) : Option am_X := match ls[i]? with
  | some (.int x) => f x
  | _ => none
def am_gl (ls : List Value) (i : Nat) (f : Int64 → Option am_X) : Option am_X := match ls[i]? with
  | some (.long x) => f x
  | _ => none
def am_gr (ls : List Value) (i : Nat) (f : Nat → Option am_X) : Option am_X := match ls[i]? with
  | some (.ref x) => f x
  | _ => none
/-- is a place of the locals that a value of one word can take, no long before it -/
def am_so (ls : List Value) (i : Nat) : Prop := i < ls.length ∧ ∀ j v, j + 1 = i → ls[j]? = some v → v.category = 1
/-- a jump -/
def am_j (pc : Nat) (off : Int) (f : Nat → Option am_X) : Option am_X := if 0 ≤ (pc : Int) + off then f ((pc : Int) + off).toNat else none
def am_cd (c : Jvm.ClassFile.Cond) (x y : Int32) : Prop := match c with
  | .eq => x = y
  | .ne => x ≠ y
  | .lt => x < y
  | .ge => y ≤ x
  | .gt => y < x
  | .le => x ≤ y
noncomputable def am_if (c : Prop) (a b : Option am_X) : Option am_X := @ite _ c (Classical.propDecidable c) a b
theorem am_if_t {c : Prop} {a b : Option am_X} (h : c) : am_if c a b = a := by unfold am_if; exact if_pos h
theorem am_if_f {c : Prop} {a b : Option am_X} (h : ¬ c) : am_if c a b = b := by unfold am_if; exact if_neg h
