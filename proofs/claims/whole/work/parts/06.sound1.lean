/-! ===== soundness of one step: instructions that touch neither heap nor calls ===== -/
section
variable {p : Program} {l : Launch} {e : Env} {R : Room} {s : State} {m : MethodId} {args : Array Value} {below : List Frame} {meth : Method} {c : Code} {Q : State → Prop} {bs : Nat} {q : am_Q} {Dg : va_G} {own nL nx0 sl0 : Nat} {cc : ByteArray}
theorem am_lok_i {als : Array Slot} {ls : List Value} {i : Nat} {x : Int32} (h : am_lok bs als nL ls) (hi : ls[i]? = some (.int x)) : als[i]? = some (.val (.int x)) := h.2.2.2 i _ hi (fun _ z => by cases z)
theorem am_lok_l {als : Array Slot} {ls : List Value} {i : Nat} {x : Int64} (h : am_lok bs als nL ls) (hi : ls[i]? = some (.long x)) : als[i]? = some (.val (.long x)) := h.2.2.2 i _ hi (fun _ z => by cases z)
theorem am_lok_r {als : Array Slot} {ls : List Value} {i : Nat} {x : Nat} (h : am_lok bs als nL ls) (hi : ls[i]? = some (.ref x)) : als[i]? = some (.val (.ref (bs + x))) := h.2.2.2 i _ hi (fun _ z => by cases z)
/-- the instructions of this part -/
def am_easy (i : Jvm.ClassFile.Instr) : Prop := match i with
  | .getfield _ => False
  | .putfield _ => False
  | .iaload => False
  | .baload => False
  | .aaload => False
  | .iastore => False
  | .bastore => False
  | .aastore => False
  | .arraylength => False
  | .new _ => False
  | .newarray _ => False
  | .anewarray _ => False
  | .multianewarray _ _ => False
  | .invokevirtual _ => False
  | .invokestatic _ => False
  | .invokespecial _ => False
  | .ireturn => False
  | .return_ => False
  | .ldc _ => False
  | .ldc_w _ => False
  | .ldc2_w _ => False
  | _ => True
set_option maxHeartbeats 4000000 in
theorem am_easy_snd {cal : am_C} {i : Jvm.ClassFile.Instr} {len pc : Nat} {ls st : List Value} {S : am_S} {D : am_D} {x9 : am_X} (he : am_easy i) (C : am_Cx p s m args meth c own cc nL Dg q bs nx0) (hd : decode cc pc = .ok (i, len)) (h : am_nxt cal own i len pc ls st S D = some x9)
    (ih : ∀ pc ls st S D, x9 = .inr (pc, ls, st, S, D) → am_W p l e R s m args below meth c Q bs q Dg nL nx0 sl0 pc ls st S D) : am_W p l e R s m args below meth c Q bs q Dg nL nx0 sl0 pc ls st S D := by
  obtain ⟨hx, hb, hml, hown, hts, hK, hxt, hbs, hini⟩ := C
  intro H locs als hS hl
  cases i
  case iconst n => obtain ⟨rfl, h⟩ := am_q_inv h; exact lv_iconst hx hb hd rfl (ih _ _ _ _ _ (am_is h) H locs als hS hl)
  case bipush n => obtain ⟨rfl, h⟩ := am_q_inv h; exact lv_bipush hx hb hd rfl (ih _ _ _ _ _ (am_is h) H locs als hS hl)
  case sipush n => obtain ⟨rfl, h⟩ := am_q_inv h; exact lv_sipush hx hb hd rfl (ih _ _ _ _ _ (am_is h) H locs als hS hl)
  case lconst n => obtain ⟨rfl, h⟩ := am_q_inv h; exact lv_lconst hx hb hd rfl (ih _ _ _ _ _ (am_is h) H locs als hS hl)
  case iload i => obtain ⟨rfl, h⟩ := am_q_inv h; obtain ⟨x, hi, h⟩ := am_gi_inv h; exact lv_iload hx hb hd (am_lok_i hl hi) (ih _ _ _ _ _ (am_is h) H locs als hS hl)
  case iload_n i => obtain ⟨rfl, h⟩ := am_q_inv h; obtain ⟨x, hi, h⟩ := am_gi_inv h; exact lv_iload_n hx hb hd rfl (am_lok_i hl hi) (ih _ _ _ _ _ (am_is h) H locs als hS hl)
  case lload i => obtain ⟨rfl, h⟩ := am_q_inv h; obtain ⟨x, hi, h⟩ := am_gl_inv h; exact lv_lload hx hb hd (am_lok_l hl hi) (ih _ _ _ _ _ (am_is h) H locs als hS hl)
  case lload_n i => obtain ⟨rfl, h⟩ := am_q_inv h; obtain ⟨x, hi, h⟩ := am_gl_inv h; exact lv_lload_n hx hb hd rfl (am_lok_l hl hi) (ih _ _ _ _ _ (am_is h) H locs als hS hl)
  case aload i => obtain ⟨rfl, h⟩ := am_q_inv h; obtain ⟨x, hi, h⟩ := am_gr_inv h; exact lv_aload hx hb hd (am_lok_r hl hi) (ih _ _ _ _ _ (am_is h) H locs als hS hl)
  case aload_n i => obtain ⟨rfl, h⟩ := am_q_inv h; obtain ⟨x, hi, h⟩ := am_gr_inv h; exact lv_aload_n hx hb hd rfl (am_lok_r hl hi) (ih _ _ _ _ _ (am_is h) H locs als hS hl)
  case istore i => obtain ⟨rfl, h⟩ := am_q_inv h; obtain ⟨x, t, rfl, h⟩ := am_i1_inv h; obtain ⟨hso, h⟩ := am_if_n h; exact lv_istore hx hb hd (am_lok_has hl) (by rw [← hl.2.2.1]; exact hso.1) rfl (fun als' h' => ih _ _ _ _ _ (am_is h) H locs als' hS (am_lok_st1 (v := .int x) hl hso h'))
  case istore_n i => obtain ⟨rfl, h⟩ := am_q_inv h; obtain ⟨x, t, rfl, h⟩ := am_i1_inv h; obtain ⟨hso, h⟩ := am_if_n h; exact lv_istore_n hx hb hd rfl (am_lok_has hl) (by rw [← hl.2.2.1]; exact hso.1) rfl (fun als' h' => ih _ _ _ _ _ (am_is h) H locs als' hS (am_lok_st1 (v := .int x) hl hso h'))
  case lstore i => obtain ⟨rfl, h⟩ := am_q_inv h; obtain ⟨x, t, rfl, h⟩ := am_l1_inv h; obtain ⟨hso, h⟩ := am_if_n h; exact lv_lstore hx hb hd (am_lok_has hl) (by rw [← hl.2.2.1]; exact hso.2) rfl (fun als' h' => ih _ _ _ _ _ (am_is h) H locs als' hS (am_lok_st2 (v := .long x) hl hso.1 hso.2 h'))
  case lstore_n i => obtain ⟨rfl, h⟩ := am_q_inv h; obtain ⟨x, t, rfl, h⟩ := am_l1_inv h; obtain ⟨hso, h⟩ := am_if_n h; exact lv_lstore_n hx hb hd rfl (am_lok_has hl) (by rw [← hl.2.2.1]; exact hso.2) rfl (fun als' h' => ih _ _ _ _ _ (am_is h) H locs als' hS (am_lok_st2 (v := .long x) hl hso.1 hso.2 h'))
  case astore i => obtain ⟨rfl, h⟩ := am_q_inv h; obtain ⟨x, t, rfl, h⟩ := am_r1_inv h; obtain ⟨hso, h⟩ := am_if_n h; exact lv_astore hx hb hd (am_lok_has hl) (by rw [← hl.2.2.1]; exact hso.1) rfl (fun als' h' => ih _ _ _ _ _ (am_is h) H locs als' hS (am_lok_st1 (v := .ref x) hl hso h'))
  case astore_n i => obtain ⟨rfl, h⟩ := am_q_inv h; obtain ⟨x, t, rfl, h⟩ := am_r1_inv h; obtain ⟨hso, h⟩ := am_if_n h; exact lv_astore_n hx hb hd rfl (am_lok_has hl) (by rw [← hl.2.2.1]; exact hso.1) rfl (fun als' h' => ih _ _ _ _ _ (am_is h) H locs als' hS (am_lok_st1 (v := .ref x) hl hso h'))
  case iinc i n =>
    obtain ⟨rfl, h⟩ := am_q_inv h
    obtain ⟨x, hi, h⟩ := am_gi_inv h
    obtain ⟨hso, h⟩ := am_if_n h
    obtain ⟨k, hk⟩ := List.getElem?_of_mem (am_lvs_mem (bs := bs).mpr ⟨_, hi, (fun _ z => by cases z), rfl⟩)
    exact lv_iinc hx hb hd (am_lok_has hl) hk rfl (by rw [← hl.2.2.1]; exact hso.1) rfl (fun als' h' => ih _ _ _ _ _ (am_is h) H locs als' hS (am_lok_st1 (v := .int (x + Int32.ofInt n)) hl hso h'))
  case iadd => obtain ⟨rfl, h⟩ := am_q_inv h; obtain ⟨y, x, t, rfl, h⟩ := am_i2_inv h; exact lv_iadd hx hb hd (ih _ _ _ _ _ (am_is h) H locs als hS hl)
  case isub => obtain ⟨rfl, h⟩ := am_q_inv h; obtain ⟨y, x, t, rfl, h⟩ := am_i2_inv h; exact lv_isub hx hb hd (ih _ _ _ _ _ (am_is h) H locs als hS hl)
  case imul => obtain ⟨rfl, h⟩ := am_q_inv h; obtain ⟨y, x, t, rfl, h⟩ := am_i2_inv h; exact lv_imul hx hb hd (ih _ _ _ _ _ (am_is h) H locs als hS hl)
  case iand => obtain ⟨rfl, h⟩ := am_q_inv h; obtain ⟨y, x, t, rfl, h⟩ := am_i2_inv h; exact lv_iand hx hb hd (ih _ _ _ _ _ (am_is h) H locs als hS hl)
  case ior => obtain ⟨rfl, h⟩ := am_q_inv h; obtain ⟨y, x, t, rfl, h⟩ := am_i2_inv h; exact lv_ior hx hb hd (ih _ _ _ _ _ (am_is h) H locs als hS hl)
  case ixor => obtain ⟨rfl, h⟩ := am_q_inv h; obtain ⟨y, x, t, rfl, h⟩ := am_i2_inv h; exact lv_ixor hx hb hd (ih _ _ _ _ _ (am_is h) H locs als hS hl)
  case ishl => obtain ⟨rfl, h⟩ := am_q_inv h; obtain ⟨y, x, t, rfl, h⟩ := am_i2_inv h; exact lv_ishl hx hb hd (ih _ _ _ _ _ (am_is h) H locs als hS hl)
  case ishr => obtain ⟨rfl, h⟩ := am_q_inv h; obtain ⟨y, x, t, rfl, h⟩ := am_i2_inv h; exact lv_ishr hx hb hd (ih _ _ _ _ _ (am_is h) H locs als hS hl)
  case iushr => obtain ⟨rfl, h⟩ := am_q_inv h; obtain ⟨y, x, t, rfl, h⟩ := am_i2_inv h; exact lv_iushr hx hb hd rfl (ih _ _ _ _ _ (am_is h) H locs als hS hl)
  case idiv =>
    obtain ⟨rfl, h⟩ := am_q_inv h
    obtain ⟨y, x, t, rfl, h⟩ := am_i2_inv h
    rcases am_if_inv h with ⟨-, h⟩ | ⟨h0, h⟩
    · cases h
    · exact lv_idiv hx hb hd h0 (ih _ _ _ _ _ (am_is h) H locs als hS hl)
  case irem =>
    obtain ⟨rfl, h⟩ := am_q_inv h
    obtain ⟨y, x, t, rfl, h⟩ := am_i2_inv h
    rcases am_if_inv h with ⟨-, h⟩ | ⟨h0, h⟩
    · cases h
    · exact lv_irem hx hb hd h0 (ih _ _ _ _ _ (am_is h) H locs als hS hl)
  case ineg => obtain ⟨rfl, h⟩ := am_q_inv h; obtain ⟨x, t, rfl, h⟩ := am_i1_inv h; exact lv_ineg hx hb hd (ih _ _ _ _ _ (am_is h) H locs als hS hl)
  case i2b => obtain ⟨rfl, h⟩ := am_q_inv h; obtain ⟨x, t, rfl, h⟩ := am_i1_inv h; exact lv_i2b hx hb hd rfl (ih _ _ _ _ _ (am_is h) H locs als hS hl)
  case i2s => obtain ⟨rfl, h⟩ := am_q_inv h; obtain ⟨x, t, rfl, h⟩ := am_i1_inv h; exact lv_i2s hx hb hd rfl (ih _ _ _ _ _ (am_is h) H locs als hS hl)
  case i2l => obtain ⟨rfl, h⟩ := am_q_inv h; obtain ⟨x, t, rfl, h⟩ := am_i1_inv h; exact lv_i2l hx hb hd rfl (ih _ _ _ _ _ (am_is h) H locs als hS hl)
  case l2i => obtain ⟨rfl, h⟩ := am_q_inv h; obtain ⟨x, t, rfl, h⟩ := am_l1_inv h; exact lv_l2i hx hb hd rfl (ih _ _ _ _ _ (am_is h) H locs als hS hl)
  case ladd => obtain ⟨rfl, h⟩ := am_q_inv h; obtain ⟨y, x, t, rfl, h⟩ := am_l2_inv h; exact lv_ladd hx hb hd (ih _ _ _ _ _ (am_is h) H locs als hS hl)
  case lmul => obtain ⟨rfl, h⟩ := am_q_inv h; obtain ⟨y, x, t, rfl, h⟩ := am_l2_inv h; exact lv_lmul hx hb hd (ih _ _ _ _ _ (am_is h) H locs als hS hl)
  case ldiv =>
    obtain ⟨rfl, h⟩ := am_q_inv h
    obtain ⟨y, x, t, rfl, h⟩ := am_l2_inv h
    rcases am_if_inv h with ⟨-, h⟩ | ⟨h0, h⟩
    · cases h
    · exact lv_ldiv hx hb hd h0 (ih _ _ _ _ _ (am_is h) H locs als hS hl)
  case lrem =>
    obtain ⟨rfl, h⟩ := am_q_inv h
    obtain ⟨y, x, t, rfl, h⟩ := am_l2_inv h
    rcases am_if_inv h with ⟨-, h⟩ | ⟨h0, h⟩
    · cases h
    · exact lv_lrem hx hb hd h0 (ih _ _ _ _ _ (am_is h) H locs als hS hl)
  case lcmp => obtain ⟨rfl, h⟩ := am_q_inv h; obtain ⟨y, x, t, rfl, h⟩ := am_l2_inv h; exact W.lcmp hx hb hd (ih _ _ _ _ _ (am_is h) H locs als hS hl)
  case dup => obtain ⟨rfl, h⟩ := am_q_inv h; obtain ⟨v, t, rfl, h⟩ := am_v1_inv h; obtain ⟨hv, h⟩ := am_if_n h; exact lv_dup hx hb hd (by rw [am_sv_cat]; exact hv) (ih _ _ _ _ _ (am_is h) H locs als hS hl)
  case dup2 =>
    replace h := am_q_inv h
    obtain ⟨rfl, h⟩ := h
    split at h
    · exact lv_dup2_11 hx hb hd rfl rfl (ih _ _ _ _ _ (am_is h) H locs als hS hl)
    · cases h
  case pop => obtain ⟨rfl, h⟩ := am_q_inv h; obtain ⟨v, t, rfl, h⟩ := am_v1_inv h; obtain ⟨hv, h⟩ := am_if_n h; exact lv_pop hx hb hd (by rw [am_sv_cat]; exact hv) (ih _ _ _ _ _ (am_is h) H locs als hS hl)
  case goto off => obtain ⟨rfl, h⟩ := am_q_inv h; obtain ⟨tgt, ht, h⟩ := am_j_inv (pc := pc) (off := off) (f := fun tgt => am_go tgt ls st S D) h; exact lv_goto hx hb hd ht (ih _ _ _ _ _ (am_is h) H locs als hS hl)
  case ifCond cn off =>
    obtain ⟨rfl, h⟩ := am_q_inv h
    obtain ⟨x, t, rfl, h⟩ := am_i1_inv h
    obtain ⟨tgt, ht, h⟩ := am_j_inv (pc := pc) (off := off) (f := fun tgt => am_if (am_cd cn x 0) (am_go tgt ls t S D) (am_go (pc + 3) ls t S D)) h
    have hh := am_if_inv h
    have kt : am_cd cn x 0 → W p l e R s m args below meth c H locs (am_nx S - nx0) (am_sl S - sl0) Q (F0 m tgt als (t.map (am_sv bs))) := fun hc => by
      rcases hh with ⟨-, h⟩ | ⟨h0, -⟩
      · exact ih _ _ _ _ _ (am_is h) H locs als hS hl
      · exact absurd hc h0
    have kf : ¬ am_cd cn x 0 → W p l e R s m args below meth c H locs (am_nx S - nx0) (am_sl S - sl0) Q (F0 m (pc + 3) als (t.map (am_sv bs))) := fun hc => by
      rcases hh with ⟨h0, -⟩ | ⟨-, h⟩
      · exact absurd h0 hc
      · exact ih _ _ _ _ _ (am_is h) H locs als hS hl
    cases cn
    · exact lv_if_eq hx hb hd ht kt kf
    · exact lv_if_ne hx hb hd ht kt (fun z => kf (fun z2 => z2 z))
    · exact lv_if_lt hx hb hd ht kt kf
    · exact lv_if_ge hx hb hd ht kt kf
    · exact lv_if_gt hx hb hd ht kt kf
    · exact lv_if_le hx hb hd ht kt kf
  case if_icmp cn off =>
    obtain ⟨rfl, h⟩ := am_q_inv h
    obtain ⟨y, x, t, rfl, h⟩ := am_i2_inv h
    obtain ⟨tgt, ht, h⟩ := am_j_inv (pc := pc) (off := off) (f := fun tgt => am_if (am_cd cn x y) (am_go tgt ls t S D) (am_go (pc + 3) ls t S D)) h
    have hh := am_if_inv h
    have kt : am_cd cn x y → W p l e R s m args below meth c H locs (am_nx S - nx0) (am_sl S - sl0) Q (F0 m tgt als (t.map (am_sv bs))) := fun hc => by
      rcases hh with ⟨-, h⟩ | ⟨h0, -⟩
      · exact ih _ _ _ _ _ (am_is h) H locs als hS hl
      · exact absurd hc h0
    have kf : ¬ am_cd cn x y → W p l e R s m args below meth c H locs (am_nx S - nx0) (am_sl S - sl0) Q (F0 m (pc + 3) als (t.map (am_sv bs))) := fun hc => by
      rcases hh with ⟨h0, -⟩ | ⟨-, h⟩
      · exact absurd h0 hc
      · exact ih _ _ _ _ _ (am_is h) H locs als hS hl
    cases cn
    · exact lv_icmp_eq hx hb hd ht kt kf
    · exact lv_icmp_ne hx hb hd ht kt (fun z => kf (fun z2 => z2 z))
    · exact lv_icmp_lt hx hb hd ht kt kf
    · exact lv_icmp_ge hx hb hd ht kt kf
    · exact lv_icmp_gt hx hb hd ht kt kf
    · exact lv_icmp_le hx hb hd ht kt kf
  case tableswitch d lo hi offs =>
    obtain ⟨x, t, rfl, h⟩ := am_i1_inv h
    rcases am_if_inv h with ⟨hc, h⟩ | ⟨hc, h⟩
    · obtain ⟨tgt, ht, h⟩ := am_j_inv h
      exact lv_tableOut hx hb hd hc ht (ih _ _ _ _ _ (am_is h) H locs als hS hl)
    · split at h
      · rename_i off ho
        obtain ⟨tgt, ht, h⟩ := am_j_inv h
        exact lv_tableIn hx hb hd (fun z => hc (Or.inl z)) (fun z => hc (Or.inr z)) ho ht (ih _ _ _ _ _ (am_is h) H locs als hS hl)
      · cases h
  case lookupswitch d ps =>
    obtain ⟨x, t, rfl, h⟩ := am_i1_inv h
    obtain ⟨hc, h⟩ := am_if_n h
    obtain ⟨tgt, ht, h⟩ := am_j_inv h
    exact lv_lookup hx hb hd hc rfl ht (ih _ _ _ _ _ (am_is h) H locs als hS hl)
  all_goals first | exact he.elim | (have h2 : (none : Option am_X) = some x9 := h; cases h2)
end
