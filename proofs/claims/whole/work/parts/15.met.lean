/-! ===== what the abstract machine answers, the real one does ===== -/
theorem am_sl_cons (v : Value) (vs : List Value) : lg_sl (v :: vs) = (if v.category = 2 then [.val v, .second] else [.val v]) ++ lg_sl vs := by simp [lg_sl]
theorem am_lay_len (bs : Nat) : ∀ vs : List Value, (lg_sl (vs.map (am_sv bs))).length = (am_lay vs).length
  | [] => rfl
  | v :: t => by
    have ih := am_lay_len bs t
    rw [List.map_cons, am_sl_cons, List.length_append, ih, am_sv_cat]
    cases v <;> simp [am_lay, Value.category] <;> omega
theorem am_lay_at (bs : Nat) : ∀ (vs : List Value) (i : Nat) (v : Value), (am_lay vs)[i]? = some v → (∀ n, v ≠ .retAddr n) → (lg_sl (vs.map (am_sv bs)))[i]? = some (.val (am_sv bs v))
  | [], i, v, h, _ => by simp [am_lay] at h
  | w :: t, i, v, h, hn => by
    have ih := am_lay_at bs t
    have one : ∀ (u : Value), u.category = 1 → am_lay (u :: t) = u :: am_lay t → w = u → (lg_sl ((w :: t).map (am_sv bs)))[i]? = some (.val (am_sv bs v)) := by
      intro u hu hl hw
      subst hw
      rw [hl] at h
      have hs : lg_sl ((w :: t).map (am_sv bs)) = .val (am_sv bs w) :: lg_sl (t.map (am_sv bs)) := by
        simp [lg_sl, am_sv_cat, hu]
      rw [hs]
      cases i with
      | zero => simp at h; subst h; rfl
      | succ i => simp at h ⊢; exact ih i v h hn
    have two : ∀ (u : Value), u.category = 2 → am_lay (u :: t) = u :: .retAddr 0 :: am_lay t → w = u → (lg_sl ((w :: t).map (am_sv bs)))[i]? = some (.val (am_sv bs v)) := by
      intro u hu hl hw
      subst hw
      rw [hl] at h
      have hs : lg_sl ((w :: t).map (am_sv bs)) = .val (am_sv bs w) :: .second :: lg_sl (t.map (am_sv bs)) := by
        simp [lg_sl, am_sv_cat, hu]
      rw [hs]
      match i, h with
      | 0, h => simp at h; subst h; rfl
      | 1, h => simp at h; exact absurd h.symm (hn 0)
      | i + 2, h => simp at h ⊢; exact ih i v h hn
    cases w with
    | int x => exact one _ rfl rfl rfl
    | long x => exact two _ rfl rfl rfl
    | float x => exact one _ rfl rfl rfl
    | double x => exact two _ rfl rfl rfl
    | null => exact one _ rfl rfl rfl
    | ref x => exact one _ rfl rfl rfl
    | retAddr x => exact one _ rfl rfl rfl
theorem am_lok_entry {bs n : Nat} {vs : List Value} (h : (am_lay vs).length ≤ n) : am_lok bs ((lg_sl (vs.map (am_sv bs)) ++ List.replicate (n - (lg_sl (vs.map (am_sv bs))).length) Slot.unset).toArray) n (am_lay vs ++ List.replicate (n - (am_lay vs).length) (.retAddr 0)) := by
  have hl := am_lay_len bs vs
  have h1 := lv_entry (vs.map (am_sv bs)) (n := n) (by rw [hl]; exact h)
  refine ⟨h1.1, h1.2.1, by rw [List.length_append, List.length_replicate]; omega, fun i v hi hn => ?_⟩
  rcases Nat.lt_or_ge i (am_lay vs).length with hlt | hge
  · rw [List.getElem?_append_left hlt] at hi
    have h2 := am_lay_at bs vs i v hi hn
    rw [List.getElem?_toArray, List.getElem?_append_left (by rw [hl]; exact hlt)]
    exact h2
  · rw [List.getElem?_append_right hge] at hi
    have h3 := List.eq_of_mem_replicate (List.mem_of_getElem? hi)
    exact absurd h3 (hn 0)
section
variable {p : Program} {l : Launch} {e : Env} {R : Room} {s : State} {m : MethodId} {args : Array Value} {below : List Frame} {meth : Method} {c : Code} {Q : State → Prop} {bs : Nat} {q : am_Q} {Dg : va_G} {own nL nx0 sl0 : Nat} {cc : ByteArray}
theorem am_exec_snd {d : Nat} {r : am_R} (IH : am_met l d) (C : am_Cx p s m args meth c own cc nL Dg q bs nx0) (hR : d + 1 ≤ R.frames ∧ 33 * (d + 1) ≤ R.locals) (hcap : am_nx r.2.1 ≤ nx0 + R.cells ∧ am_sl r.2.1 ≤ sl0 + R.slots)
    (fi : ∀ (pc : Nat) (als : Array Slot) (x : Int32) (S : am_S) (D : am_D) (H : Heap) (locs : List Loc), decode cc pc = .ok (.ireturn, 1) → r = (some (.int x), S, D) → am_St bs q Dg s nx0 sl0 S D H locs → W p l e R s m args below meth c H locs (am_nx S - nx0) (am_sl S - sl0) Q (F0 m pc als [.int x]))
    (fv : ∀ (pc : Nat) (als : Array Slot) (S : am_S) (D : am_D) (H : Heap) (locs : List Loc), decode cc pc = .ok (.return_, 1) → r = (none, S, D) → am_St bs q Dg s nx0 sl0 S D H locs → W p l e R s m args below meth c H locs (am_nx S - nx0) (am_sl S - sl0) Q (F0 m pc als [])) :
    ∀ (n pc : Nat) (ls st : List Value) (S : am_S) (D : am_D), am_exec (am_sem d) own cc n pc ls st S D = some r → am_W p l e R s m args below meth c Q bs q Dg nL nx0 sl0 pc ls st S D := by
  intro n
  induction n with
  | zero => intro pc ls st S D h; cases h
  | succ n ih =>
    intro pc ls st S D h
    unfold am_exec at h
    split at h
    · rename_i i len hd
      split at h
      · rename_i r1 h1
        cases h
        refine am_nxt_snd IH C hR (fun _ _ _ _ _ h0 => by cases h0) hd h1 ?_ ?_ (fun _ _ _ _ _ h0 => by cases h0)
        · intro x e1 e2 e3 e4
          subst e1; subst e2; subst e3
          intro H locs als hS hl
          exact fi pc als x S D H locs hd (Sum.inl.inj e4) hS
        · intro e1 e2 e3 e4
          subst e1; subst e2; subst e3
          intro H locs als hS hl
          exact fv pc als S D H locs hd (Sum.inl.inj e4) hS
      · rename_i pc' ls' st' S' D' h1
        have hmo := am_exec_mono (am_sem_calm d) _ _ _ _ _ _ h
        refine am_nxt_snd IH C hR (fun pc2 ls2 st2 S2 D2 h0 => ?_) hd h1 (fun _ _ _ _ h0 => by cases h0) (fun _ _ _ h0 => by cases h0) (fun pc2 ls2 st2 S2 D2 h0 => ?_)
        · cases h0
          exact ⟨by omega, by omega⟩
        · cases h0
          exact ih _ _ _ _ _ h
      · cases h
    · cases h
end
set_option maxHeartbeats 4000000 in
theorem am_met_all (l : Launch) : ∀ d, am_met l d := by
  intro d
  induction d with
  | zero =>
    intro bs q Dg j args S D r M h
    cases h
  | succ d IH =>
    intro bs q Dg j av S D r M h hM hw
    obtain ⟨d', M', e, hM', hl1, hl2, hnx, hsl, hokr, n, hex⟩ := am_sem_inv h
    cases e
    rw [hM] at hM'
    cases hM'
    obtain ⟨m1, m2, m3, m4, m5, m6, m7, m8, m9⟩ := am_M_at hM
    refine Met.ofW (cc := M.2.1) (maxL := M.2.2.1) (ret := M.2.2.2.1) m9 rfl ?_
    intro p e s m args below meth c s₁ B hml hv
    obtain ⟨rfl, hsz, hP, hK, hxt⟩ := hv
    have hts := atoms_spec (ws := Cond.code M.1 M.2.1 M.2.2.1 M.2.2.2.1 :: am_tw) B.pre
    have hown : s.vm.findClass M.1.cls = some m.cls := findClass_of_methodNamed B.named
    have hname : meth.name = M.1.name := (name_of_methodNamed B.named B.method).1
    have hlocks := B.notSynchronized
    have hr := B.returns
    have hb := B.bytes
    have hx := B.exec
    have ho : (M.2.2.2.2.1 + (if M.2.2.2.2.2.1 = 2 then 100 else 0)) % 100 = M.2.2.2.2.1 := by split <;> omega
    have C : am_Cx p s m ((av.map (am_sv bs)).toArray) meth c (M.2.2.2.2.1 + (if M.2.2.2.2.2.1 = 2 then 100 else 0)) M.2.1 M.2.2.1 Dg q bs (am_nx S) := by
      refine ⟨hx, hb, hml, by rw [ho, ← m4]; exact hown, fun w hw => hts w (List.mem_cons_of_mem _ hw), hK, hxt, hsz, fun h100 => ?_⟩
      rcases m3 with ⟨k0, -⟩ | ⟨k0, -, -⟩ | ⟨k0, -, w2⟩
      · rw [if_neg (by omega)] at h100; omega
      · rw [if_neg (by omega)] at h100; omega
      · rw [hname]; exact w2
    rw [lg_entry_eq]
    have key := am_exec_snd (e := e) (below := below) (Q := MQ below (am_Qc bs q Dg r) ((av.map (am_sv bs)).toArray) s M.2.2.2.2.2.2.2.1 M.2.2.2.2.2.2.2.2 (fun x => bs ≤ x)) (sl0 := am_sl S) (R := (headSpec (Cond.code M.1 M.2.1 M.2.2.1 M.2.2.2.1 :: am_tw) (am_room (d + 1) M.2.2.2.2.2.2.2.1 M.2.2.2.2.2.2.2.2)).room) IH C ⟨Nat.le_refl _, Nat.le_refl _⟩ ⟨by rw [hnx]; exact Nat.le_refl _, by rw [hsl]; exact Nat.le_refl _⟩ ?_ ?_ n 0 _ [] S D hex s.heap [] _ ⟨hP, va_S.rf, hw, Nat.le_refl _, Nat.le_refl _⟩ (am_lok_entry hl1)
    · rw [Nat.sub_self, Nat.sub_self] at key
      exact key
    · intro pc als x S' D' H locs hd hre hS
      subst hre
      rw [show am_nx S' - am_nx S = M.2.2.2.2.2.2.2.1 by have : am_nx S' = am_nx S + M.2.2.2.2.2.2.2.1 := hnx; omega, show am_sl S' - am_sl S = M.2.2.2.2.2.2.2.2 by have : am_sl S' = am_sl S + M.2.2.2.2.2.2.2.2 := hsl; omega]
      have hq : ∀ t : State, t.heap = H → s.WarmedH t.vm → am_Qc bs q Dg (some (.int x), S', D') ((av.map (am_sv bs)).toArray) s (.returned (some (.int x))) t := fun t ht _ => ⟨rfl, by rw [ht]; exact hS.1, hS.2.2.1, hS.2.1.F ht⟩
      rcases hokr with ⟨-, e2⟩ | ⟨y, e1, e2⟩ | ⟨y, e1, e2, e3⟩
      · cases e2
      · rw [e1] at hr
        exact W.iret hx hb hr hq hS.2.1.2.2 hd
      · cases e2
        rw [e1] at hr
        exact W.zret hx hb hr (by rcases e3 with rfl | rfl <;> rfl) hq hS.2.1.2.2 hd
    · intro pc als S' D' H locs hd hre hS
      subst hre
      rw [show am_nx S' - am_nx S = M.2.2.2.2.2.2.2.1 by have : am_nx S' = am_nx S + M.2.2.2.2.2.2.2.1 := hnx; omega, show am_sl S' - am_sl S = M.2.2.2.2.2.2.2.2 by have : am_sl S' = am_sl S + M.2.2.2.2.2.2.2.2 := hsl; omega]
      have hq : ∀ t : State, t.heap = H → s.WarmedH t.vm → am_Qc bs q Dg (none, S', D') ((av.map (am_sv bs)).toArray) s (.returned none) t := fun t ht _ => ⟨rfl, by rw [ht]; exact hS.1, hS.2.2.1, hS.2.1.F ht⟩
      rcases hokr with ⟨e1, -⟩ | ⟨y, e1, e2⟩ | ⟨y, e1, e2, e3⟩
      · rw [e1] at hr
        exact W.vret hx hb hr hq hS.2.1.2.2 hd
      · cases e2
      · cases e2
