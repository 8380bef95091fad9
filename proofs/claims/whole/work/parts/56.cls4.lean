/-! ===== the class: passDay ===== -/
theorem if_cg {b c : Prop} [Decidable b] [Decidable c] {x y u v : Int} (h : b ↔ c) (h1 : x = u) (h2 : y = v) : (if b then x else y) = if c then u else v := by
  by_cases hc : c
  · rw [if_pos hc, if_pos (h.mpr hc)]; exact h1
  · rw [if_neg hc, if_neg (fun x => hc (h.mp x))]; exact h2
abbrev heC (p f : Nat) (L : Int) (t : Nat → Int) (n : Nat) : Prop := t (61 + 4 * p + n) < 0 ∧ ¬ t (61 + 4 * f + n) < 0 ∧ ¬ t 3 - t (61 + 4 * f + n) < 3 * L
theorem heT_cnt {p f : Nat} {L : Int} {t u : Nat → Int} (h : ∀ n, n < 4 → (heC p f L t n ↔ heC p f L u n)) : ∀ k, k ≤ 4 → (heT p f L t k).2 = (heT p f L u k).2
  | 0, _ => rfl
  | k + 1, hk => by
    have ih := heT_cnt h k (by omega)
    have e1 := heT_cell (p := p) (f := f) (L := L) (t := t) (q := p) (n := k) (by omega) k (by omega)
    have e2 := heT_cell (p := p) (f := f) (L := L) (t := t) (q := f) (n := k) (by omega) k (by omega)
    have e3 := heT_cell (p := p) (f := f) (L := L) (t := u) (q := p) (n := k) (by omega) k (by omega)
    have e4 := heT_cell (p := p) (f := f) (L := L) (t := u) (q := f) (n := k) (by omega) k (by omega)
    rw [if_neg (by omega)] at e1 e2 e3 e4
    have o1 := heT_o p f L t (i := 3) (by omega) k
    have o2 := heT_o p f L u (i := 3) (by omega) k
    have hc := h k (by omega)
    rw [heT_s, heT_s, e1, e2, e3, e4, o1, o2]
    by_cases c : heC p f L t k
    · rw [if_pos c, if_pos (hc.mp c)]; simp only; omega
    · rw [if_neg c, if_neg (fun h => c (hc.mpr h))]; exact ih
theorem heC_o {a b : Nat} {L : Int} {t : Nat → Int} (hab : a ≠ b) {n : Nat} (hn : n < 4) : heC a b L (heT b a L t 4).1 n ↔ heC a b L t n := by
  have e1 := heT_cell (p := b) (f := a) (L := L) (t := t) (q := a) hn 4 (by omega)
  have e2 := heT_cell (p := b) (f := a) (L := L) (t := t) (q := b) hn 4 (by omega)
  rw [if_neg (fun h => hab h.1)] at e1
  have o1 := heT_o b a L t (i := 3) (by omega) 4
  unfold heC
  rw [e1, e2, o1]
  by_cases c : b = b ∧ n < 4 ∧ t (61 + 4 * b + n) < 0 ∧ ¬ t (61 + 4 * a + n) < 0 ∧ ¬ t 3 - t (61 + 4 * a + n) < 3 * L
  · rw [if_pos c]
    constructor
    · rintro ⟨h, -⟩; exact absurd h c.2.2.2.1
    · rintro ⟨h, -⟩; exact absurd h c.2.2.2.1
  · rw [if_neg c]
theorem heT_comm {a b : Nat} {L : Int} {t : Nat → Int} (hab : a ≠ b) : (heT a b L (heT b a L t 4).1 4).1 = (heT b a L (heT a b L t 4).1 4).1 := by
  funext i
  by_cases hi : i < 61
  · rw [heT_o _ _ _ _ hi, heT_o _ _ _ _ hi, heT_o _ _ _ _ hi, heT_o _ _ _ _ hi]
  · obtain ⟨q, n, hn, rfl⟩ : ∃ q n, n < 4 ∧ i = 61 + 4 * q + n := ⟨(i - 61) / 4, (i - 61) % 4, by omega, by omega⟩
    have c1 := heC_o (L := L) (t := t) hab hn
    have c2 := heC_o (L := L) (t := t) (Ne.symm hab) hn
    have o1 := heT_o b a L t (i := 3) (by omega) 4
    have o2 := heT_o a b L t (i := 3) (by omega) 4
    have l1 := heT_cell (p := a) (f := b) (L := L) (t := (heT b a L t 4).1) (q := q) hn 4 (by omega)
    have l2 := heT_cell (p := b) (f := a) (L := L) (t := (heT a b L t 4).1) (q := q) hn 4 (by omega)
    have l3 := heT_cell (p := b) (f := a) (L := L) (t := t) (q := q) hn 4 (by omega)
    have l4 := heT_cell (p := a) (f := b) (L := L) (t := t) (q := q) hn 4 (by omega)
    have d1 : (q = a ∧ n < 4 ∧ heC a b L (heT b a L t 4).1 n) ↔ (q = a ∧ n < 4 ∧ heC a b L t n) := by rw [c1]
    have d2 : (q = b ∧ n < 4 ∧ heC b a L (heT a b L t 4).1 n) ↔ (q = b ∧ n < 4 ∧ heC b a L t n) := by rw [c2]
    rw [l1, l2]
    refine (if_cg d1 o1 l3).trans (Eq.trans ?_ (if_cg d2 o2 l4).symm)
    by_cases ea : q = a
    · subst ea
      rw [if_neg (fun (h : q = b ∧ n < 4 ∧ heC b q L t n) => hab h.1)]
      by_cases c : q = q ∧ n < 4 ∧ heC q b L t n
      · rw [if_pos c]; split <;> rfl
      · rw [if_neg c, if_neg (fun h => hab h.1)]
    · rw [if_neg (fun (h : q = a ∧ n < 4 ∧ heC a b L t n) => ea h.1)]
      by_cases c : q = b ∧ n < 4 ∧ heC b a L t n
      · rw [if_pos c, if_pos c]
      · rw [if_neg c, if_neg c, if_neg (fun h => ea h.1)]
theorem heT_comm2 {a b : Nat} {L : Int} {t : Nat → Int} (hab : a ≠ b) : (heT b a L t 4).2 + (heT a b L (heT b a L t 4).1 4).2 = (heT a b L t 4).2 + (heT b a L (heT a b L t 4).1 4).2 := by
  have h1 := heT_cnt (p := a) (f := b) (L := L) (fun n hn => heC_o (L := L) (t := t) hab hn) 4 (by omega)
  have h2 := heT_cnt (p := b) (f := a) (L := L) (fun n hn => heC_o (L := L) (t := t) (Ne.symm hab) hn) 4 (by omega)
  omega
theorem shT_37 {t : Nat → Int} {m : Int} {s : Nat} (hs : s < 4) : ∀ k, k ≤ 4 → (shT t m k).1 (37 + s) = if s < k ∧ t (37 + s) = t 3 then 0 else t (37 + s)
  | 0, _ => by rw [if_neg (by omega)]; rfl
  | k + 1, hk => by
    have ih := shT_37 (t := t) (m := m) hs k (by omega)
    have o3 := shT_o t m (i := 3) (by omega) k (by omega)
    have ik := shT_37 (t := t) (m := m) (s := k) (by omega) k (by omega)
    rw [if_neg (by omega)] at ik
    rw [shT_s, ik, o3]
    have key : ∀ g : Nat → Int, (t (37 + k) = t 3 → g (37 + s) = updI (shT t m k).1 (37 + k) 0 (37 + s)) → (t (37 + k) ≠ t 3 → g (37 + s) = (shT t m k).1 (37 + s)) → g (37 + s) = if s < k + 1 ∧ t (37 + s) = t 3 then 0 else t (37 + s) := by
      intro g h1 h2
      by_cases c : t (37 + k) = t 3
      · rw [h1 c]
        by_cases e : s = k
        · subst e; rw [updI_s, if_pos ⟨by omega, c⟩]
        · rw [updI_n (by omega), ih]
          by_cases c2 : s < k ∧ t (37 + s) = t 3
          · rw [if_pos c2, if_pos ⟨by omega, c2.2⟩]
          · rw [if_neg c2, if_neg (fun h => c2 ⟨by omega, h.2⟩)]
      · rw [h2 c, ih]
        by_cases c2 : s < k ∧ t (37 + s) = t 3
        · rw [if_pos c2, if_pos ⟨by omega, c2.2⟩]
        · rw [if_neg c2, if_neg]
          rintro ⟨h3, h4⟩
          by_cases e : s = k
          · subst e; exact c h4
          · exact c2 ⟨by omega, h4⟩
    split
    · rename_i c
      split
      · refine key _ (fun _ => ?_) (fun h => absurd c h)
        simp only
        rw [teT_o _ _ _ (by omega) (by omega)]
      · exact key _ (fun _ => rfl) (fun h => absurd c h)
    · rename_i c
      exact key _ (fun h => absurd h c) (fun _ => rfl)
theorem RL0_dy {E : Nat → Nat → Int} {a : Nat} {t : Nat → Int} (h : RL0 E a t) {z : Int} : RL0 (setR E a (updI (E a) 3 z)) a (updI t 3 z) := by
  obtain ⟨⟨h00, h01, h02, h03, h04⟩, h1, h2, h3, h4⟩ := h
  refine ⟨⟨?_, ?_, ?_, ?_, ?_⟩, fun w hw hw2 => ?_, fun s hs hs2 => ?_, fun n hn hn2 => ?_, fun i hi => ?_⟩
  · rw [setR_s, updI_n (by omega), updI_n (by omega)]; exact h00
  · rw [setR_s, updI_n (by omega), updI_n (by omega)]; exact h01
  · rw [setR_s, updI_n (by omega), updI_n (by omega)]; exact h02
  · rw [setR_s, updI_s, updI_s]
  · rw [setR_s, updI_n (by omega), updI_n (by omega)]; exact h04
  · simp (disch := omega) only [setR_n, updI_n] at hw2 ⊢; exact h1 w hw hw2
  · simp (disch := omega) only [setR_n, updI_n] at hs2 ⊢; exact h2 s hs hs2
  · simp (disch := omega) only [setR_n, updI_n] at hn2 ⊢; exact h3 n hn hn2
  · simp (disch := omega) only [setR_n, updI_n]; exact h4 i hi
theorem kn0_wa {t : Nat → Int} (hb : bT t) (h : kn0 t) : ∀ k, k ≤ 8 → kn0 (waT t k).1
  | 0, _ => h
  | k + 1, hk => by
    have ih := kn0_wa hb h k (by omega)
    have hw := hb.2.2.2.2.2.2.1 k (by omega)
    rw [waT_s]
    exact kn0_he (kn0_he ih (by omega) (by omega) (by omega)) (by omega) (by omega) (by omega)
/-- a league with ways between different ports, and what goes with it -/
def yT (t : Nat → Int) : Prop := kn0 t ∧ bt0 t ∧ w1T t ∧ (∀ w : Nat, w < 8 → (w : Int) < t 1 → t (5 + w) ≠ t (13 + w)) ∧ ∀ s, s < 4 → t (49 + s) = 0
theorem bt0_sh {t : Nat → Int} {m : Int} (h : bt0 t) {k : Nat} (hk : k ≤ 4) : bt0 (shT t m k).1 := by
  intro s hs hs2
  rw [shT_o t m (by omega) k hk] at hs2
  rw [shT_o t m (by omega) k hk, shT_o t m (by omega) k hk]
  exact h s hs hs2
theorem kn0_sh {t : Nat → Int} {m : Int} (hb : bT t) (h : kn0 t) (hB : bt0 t) : ∀ k : Nat, k ≤ 4 → (k : Int) ≤ t 2 → kn0 (shT t m k).1
  | 0, _, _ => h
  | k + 1, hk, hk2 => by
    have ih := kn0_sh (m := m) hb h hB k (by omega) (by omega)
    have iB := bt0_sh (m := m) hB (k := k) (by omega)
    have o2 := shT_o t m (i := 2) (by omega) k (by omega)
    have u1 : kn0 (updI (shT t m k).1 (37 + k) 0) := fun p n hp hn h4 => by
      rw [updI_n (by omega)] at h4 ⊢; exact ih p n hp hn h4
    have u2 : bt0 (updI (shT t m k).1 (37 + k) 0) := fun s hs hs2 => by
      rw [updI_n (by omega)] at hs2
      rw [updI_n (by omega), updI_n (by omega)]; exact iB s hs hs2
    rw [shT_s]
    split
    · split
      · exact kn0_te u1 u2 (by omega) (by rw [updI_n (by omega), o2]; omega) (by omega)
      · exact u1
    · exact ih
theorem c_passDay {d a : Nat} {E : Nat → Nat → Int} {t : Nat → Int} (h : am_lg a) (hR : RL0 E a t) (hD : RD E a t) (hv : vT t) (hd : t 3 < 150) (hy : yT t) : ∃ E', (RL0 E' a (goT t).1 ∧ RD E' a (goT t).1 ∧ frL E E' a) ∧ am_sem (d + 4) 48 [.ref a] am_S0 (dI E) = some (some (.int (iI (goT t).2)), am_S0, dI E') := by
  obtain ⟨hk0, hB, h1, hne, hmu⟩ := hy
  obtain ⟨hb, hp⟩ := hv
  have a1 := hb.2.2.1
  have a2 := hb.2.2.2.1
  have a3 := hb.2.2.2.2.1
  have hT := bT_day hb hd
  have hR1 := RL0_dy hR (z := t 3 + 1)
  have e3 := hR.1.2.2.2.1
  have g37 : ∀ s, s < 4 → (goT t).1 (37 + s) = if (s : Int) < t 2 ∧ t (37 + s) = t 3 + 1 then 0 else t (37 + s) := by
    intro s hs
    unfold goT
    simp only
    rw [leT_o _ _ (by omega), shT_37 hs _ (by omega), waT_o _ (by omega), waT_o _ (by omega), updI_n (by omega), updI_s]
    by_cases c : (s : Int) < t 2 ∧ t (37 + s) = t 3 + 1
    · rw [if_pos c, if_pos ⟨by omega, c.2⟩]
    · rw [if_neg c, if_neg (fun h => c ⟨by omega, h.2⟩)]
  have g3 := goT_3 hb
  have g2 : (goT t).1 2 = t 2 := goT_o hb (by omega) (by omega)
  have hkT : kn0 (updI t 3 (t 3 + 1)) := fun p n hp hn h4 => by rw [updI_n (by omega)] at h4 ⊢; exact hk0 p n hp hn h4
  have hBT : bt0 (updI t 3 (t 3 + 1)) := fun s hs h4 => by rw [updI_n (by omega)] at h4; rw [updI_n (by omega), updI_n (by omega)]; exact hB s hs h4
  have h1T : ∀ w : Nat, w < 8 → (w : Int) < t 1 → 1 ≤ updI t 3 (t 3 + 1) (21 + w) := fun w hw8 hw => by rw [updI_n (by omega)]; exact h1 w hw
  have hneT : ∀ w : Nat, w < 8 → (w : Int) < t 1 → updI t 3 (t 3 + 1) (5 + w) ≠ updI t 3 (t 3 + 1) (13 + w) := fun w hw8 hw => by rw [updI_n (by omega), updI_n (by omega)]; exact hne w hw8 hw
  have hmT : ∀ s, s < 4 → updI t 3 (t 3 + 1) (49 + s) = 0 := fun s hs => by rw [updI_n (by omega)]; exact hmu s hs
  have hpT : pB (40 * t 3) 0 (updI t 3 (t 3 + 1)) := fun s hs => by rw [updI_n (by omega)]; exact hp s hs
  have eT1 : updI t 3 (t 3 + 1) 1 = t 1 := updI_n (by omega)
  have eT2 : updI t 3 (t 3 + 1) 2 = t 2 := updI_n (by omega)
  have eT3 : updI t 3 (t 3 + 1) 3 = t 3 + 1 := updI_s _ _ _
  have eTd : ∀ s, s < 4 → updI t 3 (t 3 + 1) (37 + s) = t (37 + s) := fun s hs => updI_n (by omega)
  have eG : goT t = (leT (shT (waT (updI t 3 (t 3 + 1)) (t 1).toNat).1 (waT (updI t 3 (t 3 + 1)) (t 1).toNat).2 (t 2).toNat).1 (t 2).toNat, (shT (waT (updI t 3 (t 3 + 1)) (t 1).toNat).1 (waT (updI t 3 (t 3 + 1)) (t 1).toNat).2 (t 2).toNat).2) := rfl
  generalize updI t 3 (t 3 + 1) = T at *
  obtain ⟨K1, hK1⟩ := Int.eq_ofNat_of_zero_le a1.1
  obtain ⟨K2, hK2⟩ := Int.eq_ofNat_of_zero_le a2.1
  rw [hK1, hK2, show ((K1 : Int)).toNat = K1 from rfl, show ((K2 : Int)).toNat = K2 from rfl] at eG
  have hA := waT_b hT K1
  have hkA := kn0_wa hT hkT K1 (by omega)
  have hBA : bt0 (waT T K1).1 := fun s hs h4 => by rw [waT_o _ (by omega)] at h4; rw [waT_o _ (by omega), waT_o _ (by omega)]; exact hBT s hs h4
  have hpA : pB (40 * t 3) 0 (waT T K1).1 := fun s hs => by rw [waT_o _ (by omega)]; exact hpT s hs
  have mA := waT_2 T K1
  have oA : ∀ i, i < 61 → (waT T K1).1 i = T i := fun i hi => waT_o T hi K1
  -- the ways
  have H1 := am_fwd (I := fun k E' => stp (setR E a (updI (E a) 3 (t 3 + 1))) E' a (waT T k).1) (ev := fun k E' R => am_ev (am_sem (d + 3)) 3 cX3_passDay 14 [.ref a, .int (iI (waT T k).2), .int (iI k)] [] am_S0 (dI E') R) (n := K1) ?_ (k := 0) (x := setR E a (updI (E a) 3 (t 3 + 1))) (by omega) ⟨hR1, frL_r _ a, rfl⟩
  · obtain ⟨E1, ⟨hR2, hF2, hD2⟩, he1⟩ := H1
    rw [setR_n (by omega)] at hD2
    -- the ships
    have H2 := am_fwd (I := fun k E' => stp E1 E' a (shT (waT T K1).1 (waT T K1).2 k).1) (ev := fun k E' R => am_ev (am_sem (d + 3)) 3 cX3_passDay 70 [.ref a, .int (iI (shT (waT T K1).1 (waT T K1).2 k).2), .int (iI k)] [] am_S0 (dI E') R) (n := K2) ?_ (k := 0) (x := E1) (by omega) ⟨hR2, frL_r _ a, rfl⟩
    · obtain ⟨E2, ⟨hR3, hF3, hD3⟩, he2⟩ := H2
      obtain ⟨hbS, hpS⟩ := shT_b (m := (waT T K1).2) hA (by omega) hpA K2 (by omega)
      have hkS := kn0_sh (m := (waT T K1).2) hA hkA hBA K2 (by omega) (by rw [oA 2 (by omega), eT2, hK2]; omega)
      have mS := shT_2 (waT T K1).1 (waT T K1).2 K2
      have oS2 : (shT (waT T K1).1 (waT T K1).2 K2).1 2 = t 2 := by rw [shT_o _ _ (by omega) _ (by omega), oA 2 (by omega), eT2]
      have oS3 : (shT (waT T K1).1 (waT T K1).2 K2).1 3 = t 3 + 1 := by rw [shT_o _ _ (by omega) _ (by omega), oA 3 (by omega), eT3]
      have oSd : ∀ s, s < 4 → (shT (waT T K1).1 (waT T K1).2 K2).1 (37 + s) = if s < K2 ∧ t (37 + s) = t 3 + 1 then 0 else t (37 + s) := fun s hs => by
        rw [shT_37 hs _ (by omega), oA (37 + s) (by omega), oA 3 (by omega), eT3, eTd s hs]
      have hRD : RDs E2 a (shT (waT T K1).1 (waT T K1).2 K2).1 := by
        intro s hs hs2
        rw [oS2] at hs2
        rw [oS3, oSd s hs, hD3, hD2]
        have hb37 := hb.1 (37 + s)
        rcases hD s hs hs2 with ⟨x1, x2, x3⟩ | ⟨x1, x2⟩
        · rw [x1, if_neg (by omega)]
          refine ⟨by omega, by omega⟩
        · rw [x1]
          refine ⟨by omega, ?_⟩
          by_cases c : t (37 + s) = t 3 + 1
          · rw [if_pos ⟨by omega, c⟩]; omega
          · rw [if_neg (fun h => c h.2)]; omega
      obtain ⟨E3, ⟨hR4, hF4, hD4⟩, he3⟩ := c_tellShips (d := d) h hR3 hbS hkS hRD
      rw [oS2, hK2, show ((K2 : Int)).toNat = K2 from rfl] at hR4
      refine ⟨E3, ⟨?_, ?_, ?_⟩, mX3_passDay rfl rfl ?_⟩
      · rw [eG]; exact hR4
      · intro s hs hs2
        rw [g2] at hs2
        rw [g37 s hs, g3, hD4, hD3, hD2]
        rcases hD s hs hs2 with ⟨x1, x2, x3⟩ | ⟨x1, x2⟩
        · rw [x1, if_neg (by omega)]
          exact Or.inl ⟨rfl, x2, by omega⟩
        · by_cases c : t (37 + s) = t 3 + 1
          · rw [if_pos ⟨hs2, c⟩]; exact Or.inl ⟨rfl, by omega, by omega⟩
          · rw [if_neg (fun h => c h.2)]; exact Or.inr ⟨x1, by omega⟩
      · exact frL_t (frL_t (frL_t (frL_s (frL_r E a) (by omega) _) hF2) hF3) hF4
      · rw [eG]
        simp only
        simp (disch := first | omega | simp only [am_ci, am_cr, am_ca]) only [eX3_passDay_0, eX3_passDay_1, eX3_passDay_2, eX3_passDay_5, eX3_passDay_6, eX3_passDay_7, eX3_passDay_10, eX3_passDay_11, eX3_passDay_12, eX3_passDay_13, am_bi, Int.reduceEq, Int.reduceLT, Int.reduceLE, Int.reduceToNat, ite_self, Decidable.not_not, not_true_eq_false, not_false_eq_true, ↓reduceIte, am_ci, am_cr, am_ca, am_b0, am_b1, am_ts, am_tn, am_then_some, List.cons_append, List.nil_append, ne_eq, iI_lit, iI_add, iI_sub, iI_mul, iI_neg, iI_lt, iI_le, iI_eq, iI_in, iI_clz, dI_ap, dI_wr, setR_s, wE_R, setR_2, setR_n, setR_o, updI_s, updI_n, updI_2, tl_0, tl_1, tl_2, tl_3, tl_4, tl_5, tl_6, tl_7, tl_8, tl_9, tl_10, tl_11, tl_12, tl_13, tl_14, tl_15, tl_16, tn_3, tn_5, tn_13, tn_21, tn_29, tn_33, tn_37, tn_41, tn_45, tn_49, tn_53, tn_57, tn_61, tn_40, tn_p, tn_0, true_and, and_true, sk_0, sk_1, sk_2, sl_2, sk_3, sl_3, sk_4, sl_4, sk_5, sl_5, sk_6, sl_6, sk_7, sl_7, sk_8, sl_8, sk_9, sl_9, sk_10, sl_10, sk_11, sl_11, sk_12, sl_12, sk_13, sk_14, sl_14, sk_15, sk_40, sk_41, sl_41, sk_330, sl_330, sk_355, sk_356, sl_356, sk_357, sl_357, sk_358, sl_358, sk_359, sl_359, sk_360, sl_360, sk_361, sk_362, sl_362, sk_363, sk_376, sk_377, sl_377, sk_378, sk_379, sl_379, sk_380, sl_380, sk_381, sl_381, sk_382, sl_382, sk_383, sl_383, sk_384, sl_384, sk_385, sl_385, sk_386, sl_386, sk_387, sl_387, sk_388, sl_388, sk_389, sl_389, sk_390, sl_390, sk_391, sl_391, sk_392, sl_392, sk_393, sl_393, sk_394, sl_394, sr_0_0, sr_0_1, sr_0_2, sr_0_3, sr_0_4, sr_0_5, sr_0_6, sr_0_7, sr_0_8, sr_0_9, sr_1_0, sr_1_1, sr_1_2, sr_13_0, sr_15_0, sr_15_2, sr_40_0, sr_355_0, sr_355_1, sr_355_2, sr_355_3, sr_355_4, sr_355_5, sr_361_2, sr_361_5, sr_361_6, sr_363_0, sr_363_1, sr_376_0, sr_376_2, sr_378_0, sr_378_1, sr_378_2, sr_378_4, sr_378_8, sr_378_10, sr_378_11, sr_378_12, sr_378_14, sr_378_20, sr_378_21, sr_378_22, sr_378_23, sr_378_24, sr_378_25, sr_378_26, am_vs, h.k, e3]
        refine he1 _ ?_
        have f1 : E1 a 1 = (K1 : Int) := by rw [hR2.1.2.1, oA 1 (by omega), eT1, hK1]
        rw [eX3_passDay_14]
        simp (disch := first | omega | simp only [am_ci, am_cr, am_ca]) only [eX3_passDay_15, eX3_passDay_16, eX3_passDay_19, eX3_passDay_22, eX3_passDay_23, eX3_passDay_24, eX3_passDay_25, eX3_passDay_26, eX3_passDay_29, eX3_passDay_30, eX3_passDay_31, eX3_passDay_32, eX3_passDay_35, eX3_passDay_36, eX3_passDay_37, eX3_passDay_40, eX3_passDay_41, eX3_passDay_42, eX3_passDay_43, eX3_passDay_44, eX3_passDay_45, eX3_passDay_46, eX3_passDay_49, eX3_passDay_50, eX3_passDay_51, eX3_passDay_52, eX3_passDay_55, eX3_passDay_56, eX3_passDay_57, eX3_passDay_60, eX3_passDay_61, eX3_passDay_62, eX3_passDay_65, eX3_passDay_68, eX3_passDay_69, am_bi, Int.reduceEq, Int.reduceLT, Int.reduceLE, Int.reduceToNat, ite_self, Decidable.not_not, not_true_eq_false, not_false_eq_true, ↓reduceIte, am_ci, am_cr, am_ca, am_b0, am_b1, am_ts, am_tn, am_then_some, List.cons_append, List.nil_append, ne_eq, iI_lit, iI_add, iI_sub, iI_mul, iI_neg, iI_lt, iI_le, iI_eq, iI_in, iI_clz, dI_ap, dI_wr, setR_s, wE_R, setR_2, setR_n, setR_o, updI_s, updI_n, updI_2, tl_0, tl_1, tl_2, tl_3, tl_4, tl_5, tl_6, tl_7, tl_8, tl_9, tl_10, tl_11, tl_12, tl_13, tl_14, tl_15, tl_16, tn_3, tn_5, tn_13, tn_21, tn_29, tn_33, tn_37, tn_41, tn_45, tn_49, tn_53, tn_57, tn_61, tn_40, tn_p, tn_0, true_and, and_true, sk_0, sk_1, sk_2, sl_2, sk_3, sl_3, sk_4, sl_4, sk_5, sl_5, sk_6, sl_6, sk_7, sl_7, sk_8, sl_8, sk_9, sl_9, sk_10, sl_10, sk_11, sl_11, sk_12, sl_12, sk_13, sk_14, sl_14, sk_15, sk_40, sk_41, sl_41, sk_330, sl_330, sk_355, sk_356, sl_356, sk_357, sl_357, sk_358, sl_358, sk_359, sl_359, sk_360, sl_360, sk_361, sk_362, sl_362, sk_363, sk_376, sk_377, sl_377, sk_378, sk_379, sl_379, sk_380, sl_380, sk_381, sl_381, sk_382, sl_382, sk_383, sl_383, sk_384, sl_384, sk_385, sl_385, sk_386, sl_386, sk_387, sl_387, sk_388, sl_388, sk_389, sl_389, sk_390, sl_390, sk_391, sl_391, sk_392, sl_392, sk_393, sl_393, sk_394, sl_394, sr_0_0, sr_0_1, sr_0_2, sr_0_3, sr_0_4, sr_0_5, sr_0_6, sr_0_7, sr_0_8, sr_0_9, sr_1_0, sr_1_1, sr_1_2, sr_13_0, sr_15_0, sr_15_2, sr_40_0, sr_355_0, sr_355_1, sr_355_2, sr_355_3, sr_355_4, sr_355_5, sr_361_2, sr_361_5, sr_361_6, sr_363_0, sr_363_1, sr_376_0, sr_376_2, sr_378_0, sr_378_1, sr_378_2, sr_378_4, sr_378_8, sr_378_10, sr_378_11, sr_378_12, sr_378_14, sr_378_20, sr_378_21, sr_378_22, sr_378_23, sr_378_24, sr_378_25, sr_378_26, am_vs, h.k, f1]
        repeat (first | rw [if_pos (by omega)] | rw [if_neg (by omega)])
        refine he2 _ ?_
        have f2 : E2 a 2 = (K2 : Int) := by rw [hR3.1.2.2.1, oS2, hK2]
        rw [eX3_passDay_70]
        simp (disch := first | omega | simp only [am_ci, am_cr, am_ca]) only [eX3_passDay_71, eX3_passDay_72, eX3_passDay_75, eX3_passDay_78, eX3_passDay_79, eX3_passDay_82, eX3_passDay_83, eX3_passDay_84, eX3_passDay_85, eX3_passDay_88, eX3_passDay_91, eX3_passDay_92, eX3_passDay_93, eX3_passDay_94, eX3_passDay_97, eX3_passDay_98, eX3_passDay_99, eX3_passDay_102, eX3_passDay_105, eX3_passDay_106, eX3_passDay_109, eX3_passDay_110, am_bi, Int.reduceEq, Int.reduceLT, Int.reduceLE, Int.reduceToNat, ite_self, Decidable.not_not, not_true_eq_false, not_false_eq_true, ↓reduceIte, am_ci, am_cr, am_ca, am_b0, am_b1, am_ts, am_tn, am_then_some, List.cons_append, List.nil_append, ne_eq, iI_lit, iI_add, iI_sub, iI_mul, iI_neg, iI_lt, iI_le, iI_eq, iI_in, iI_clz, dI_ap, dI_wr, setR_s, wE_R, setR_2, setR_n, setR_o, updI_s, updI_n, updI_2, tl_0, tl_1, tl_2, tl_3, tl_4, tl_5, tl_6, tl_7, tl_8, tl_9, tl_10, tl_11, tl_12, tl_13, tl_14, tl_15, tl_16, tn_3, tn_5, tn_13, tn_21, tn_29, tn_33, tn_37, tn_41, tn_45, tn_49, tn_53, tn_57, tn_61, tn_40, tn_p, tn_0, true_and, and_true, sk_0, sk_1, sk_2, sl_2, sk_3, sl_3, sk_4, sl_4, sk_5, sl_5, sk_6, sl_6, sk_7, sl_7, sk_8, sl_8, sk_9, sl_9, sk_10, sl_10, sk_11, sl_11, sk_12, sl_12, sk_13, sk_14, sl_14, sk_15, sk_40, sk_41, sl_41, sk_330, sl_330, sk_355, sk_356, sl_356, sk_357, sl_357, sk_358, sl_358, sk_359, sl_359, sk_360, sl_360, sk_361, sk_362, sl_362, sk_363, sk_376, sk_377, sl_377, sk_378, sk_379, sl_379, sk_380, sl_380, sk_381, sl_381, sk_382, sl_382, sk_383, sl_383, sk_384, sl_384, sk_385, sl_385, sk_386, sl_386, sk_387, sl_387, sk_388, sl_388, sk_389, sl_389, sk_390, sl_390, sk_391, sl_391, sk_392, sl_392, sk_393, sl_393, sk_394, sl_394, sr_0_0, sr_0_1, sr_0_2, sr_0_3, sr_0_4, sr_0_5, sr_0_6, sr_0_7, sr_0_8, sr_0_9, sr_1_0, sr_1_1, sr_1_2, sr_13_0, sr_15_0, sr_15_2, sr_40_0, sr_355_0, sr_355_1, sr_355_2, sr_355_3, sr_355_4, sr_355_5, sr_361_2, sr_361_5, sr_361_6, sr_363_0, sr_363_1, sr_376_0, sr_376_2, sr_378_0, sr_378_1, sr_378_2, sr_378_4, sr_378_8, sr_378_10, sr_378_11, sr_378_12, sr_378_14, sr_378_20, sr_378_21, sr_378_22, sr_378_23, sr_378_24, sr_378_25, sr_378_26, am_vs, h.k, f2, he3]
        all_goals ((repeat' split) <;> first | rfl | trivial | (exfalso; omega))
    · intro k E' hk hE
      obtain ⟨hRk, hFk, hDk⟩ := hE
      have k4 : k < 4 := by omega
      obtain ⟨hbk, hpk⟩ := shT_b (m := (waT T K1).2) hA (by omega) hpA k (by omega)
      have hkk := kn0_sh (m := (waT T K1).2) hA hkA hBA k (by omega) (by rw [oA 2 (by omega), eT2, hK2]; omega)
      have hBk := bt0_sh (m := (waT T K1).2) hBA (k := k) (by omega)
      have mk := shT_2 (waT T K1).1 (waT T K1).2 k
      have o2 : (shT (waT T K1).1 (waT T K1).2 k).1 2 = t 2 := by rw [shT_o _ _ (by omega) _ (by omega), oA 2 (by omega), eT2]
      have o3 : (shT (waT T K1).1 (waT T K1).2 k).1 3 = t 3 + 1 := by rw [shT_o _ _ (by omega) _ (by omega), oA 3 (by omega), eT3]
      have o37 : (shT (waT T K1).1 (waT T K1).2 k).1 (37 + k) = t (37 + k) := by
        rw [shT_37 k4 _ (by omega), if_neg (by omega), oA (37 + k) (by omega), eTd k k4]
      have o49 : (shT (waT T K1).1 (waT T K1).2 k).1 (49 + k) = 0 := by rw [shT_o _ _ (by omega) _ (by omega), oA _ (by omega), hmT k k4]
      have pk := hpk k k4
      rw [if_neg (by omega)] at pk
      rw [shT_s, o37, o3, o49, if_pos rfl]
      generalize shT (waT T K1).1 (waT T K1).2 k = U at *
      have f2 : E' a 2 = (K2 : Int) := by rw [hRk.1.2.2.1, o2, hK2]
      have f3 : E' a 3 = t 3 + 1 := by rw [hRk.1.2.2.2.1, o3]
      have hb37 := hb.1 (37 + k)
      have dk := hD k k4 (by omega)
      rw [← hD2, ← hDk] at dk
      by_cases c : t (37 + k) = t 3 + 1
      · rw [if_pos c]
        have dk2 : E' (a + 6) k = t 3 + 1 := by omega
        have hbu := bT_due hbk k4
        have hBu : bt0 (updI U.1 (37 + k) 0) := fun s hs hs2 => by
          rw [updI_n (by omega)] at hs2
          rw [updI_n (by omega), updI_n (by omega)]; exact hBk s hs hs2
        obtain ⟨E'', ⟨q1, q2, q3⟩, q4⟩ := c_tellPort (d := d) (s := k) h (RL0_du hRk k4 (z := 0)) hbu hBu k4 (by rw [updI_n (by omega), o2]; omega) (by rw [updI_n (by omega)]; omega)
        rw [updI_n (show 33 + k ≠ 37 + k by omega)] at q1 q4
        have m2 := teT_2 k (U.1 (33 + k)).toNat (updI U.1 (37 + k) 0) 4
        refine ⟨E'', ⟨q1, frL_t hFk q2, by rw [q3, hDk]⟩, fun R ih => ?_⟩
        rw [eX3_passDay_70]
        simp (disch := first | omega | simp only [am_ci, am_cr, am_ca]) only [eX3_passDay_71, eX3_passDay_72, eX3_passDay_75, eX3_passDay_78, eX3_passDay_79, eX3_passDay_82, eX3_passDay_83, eX3_passDay_84, eX3_passDay_85, eX3_passDay_88, eX3_passDay_91, eX3_passDay_92, eX3_passDay_93, eX3_passDay_94, eX3_passDay_97, eX3_passDay_98, eX3_passDay_99, eX3_passDay_102, am_bi, Int.reduceEq, Int.reduceLT, Int.reduceLE, Int.reduceToNat, ite_self, Decidable.not_not, not_true_eq_false, not_false_eq_true, ↓reduceIte, am_ci, am_cr, am_ca, am_b0, am_b1, am_ts, am_tn, am_then_some, List.cons_append, List.nil_append, ne_eq, iI_lit, iI_add, iI_sub, iI_mul, iI_neg, iI_lt, iI_le, iI_eq, iI_in, iI_clz, dI_ap, dI_wr, setR_s, wE_R, setR_2, setR_n, setR_o, updI_s, updI_n, updI_2, tl_0, tl_1, tl_2, tl_3, tl_4, tl_5, tl_6, tl_7, tl_8, tl_9, tl_10, tl_11, tl_12, tl_13, tl_14, tl_15, tl_16, tn_3, tn_5, tn_13, tn_21, tn_29, tn_33, tn_37, tn_41, tn_45, tn_49, tn_53, tn_57, tn_61, tn_40, tn_p, tn_0, true_and, and_true, sk_0, sk_1, sk_2, sl_2, sk_3, sl_3, sk_4, sl_4, sk_5, sl_5, sk_6, sl_6, sk_7, sl_7, sk_8, sl_8, sk_9, sl_9, sk_10, sl_10, sk_11, sl_11, sk_12, sl_12, sk_13, sk_14, sl_14, sk_15, sk_40, sk_41, sl_41, sk_330, sl_330, sk_355, sk_356, sl_356, sk_357, sl_357, sk_358, sl_358, sk_359, sl_359, sk_360, sl_360, sk_361, sk_362, sl_362, sk_363, sk_376, sk_377, sl_377, sk_378, sk_379, sl_379, sk_380, sl_380, sk_381, sl_381, sk_382, sl_382, sk_383, sl_383, sk_384, sl_384, sk_385, sl_385, sk_386, sl_386, sk_387, sl_387, sk_388, sl_388, sk_389, sl_389, sk_390, sl_390, sk_391, sl_391, sk_392, sl_392, sk_393, sl_393, sk_394, sl_394, sr_0_0, sr_0_1, sr_0_2, sr_0_3, sr_0_4, sr_0_5, sr_0_6, sr_0_7, sr_0_8, sr_0_9, sr_1_0, sr_1_1, sr_1_2, sr_13_0, sr_15_0, sr_15_2, sr_40_0, sr_355_0, sr_355_1, sr_355_2, sr_355_3, sr_355_4, sr_355_5, sr_361_2, sr_361_5, sr_361_6, sr_363_0, sr_363_1, sr_376_0, sr_376_2, sr_378_0, sr_378_1, sr_378_2, sr_378_4, sr_378_8, sr_378_10, sr_378_11, sr_378_12, sr_378_14, sr_378_20, sr_378_21, sr_378_22, sr_378_23, sr_378_24, sr_378_25, sr_378_26, am_vs, h.k, h.k6, h.r6, h.l6, f2, f3, dk2, q4]
        repeat (first | rw [if_pos (by omega)] | rw [if_neg (by omega)])
        exact ih
      · rw [if_neg c]
        refine ⟨E', ⟨hRk, hFk, hDk⟩, fun R ih => ?_⟩
        have dk2 : E' (a + 6) k ≠ t 3 + 1 := by omega
        have dk3 : -2147483648 ≤ E' (a + 6) k ∧ E' (a + 6) k < 2147483648 := by omega
        rw [eX3_passDay_70]
        simp (disch := first | omega | simp only [am_ci, am_cr, am_ca]) only [eX3_passDay_71, eX3_passDay_72, eX3_passDay_75, eX3_passDay_78, eX3_passDay_79, eX3_passDay_82, eX3_passDay_83, eX3_passDay_84, eX3_passDay_85, eX3_passDay_88, eX3_passDay_91, eX3_passDay_92, eX3_passDay_93, eX3_passDay_94, eX3_passDay_97, eX3_passDay_98, eX3_passDay_99, eX3_passDay_102, am_bi, Int.reduceEq, Int.reduceLT, Int.reduceLE, Int.reduceToNat, ite_self, Decidable.not_not, not_true_eq_false, not_false_eq_true, ↓reduceIte, am_ci, am_cr, am_ca, am_b0, am_b1, am_ts, am_tn, am_then_some, List.cons_append, List.nil_append, ne_eq, iI_lit, iI_add, iI_sub, iI_mul, iI_neg, iI_lt, iI_le, iI_eq, iI_in, iI_clz, dI_ap, dI_wr, setR_s, wE_R, setR_2, setR_n, setR_o, updI_s, updI_n, updI_2, tl_0, tl_1, tl_2, tl_3, tl_4, tl_5, tl_6, tl_7, tl_8, tl_9, tl_10, tl_11, tl_12, tl_13, tl_14, tl_15, tl_16, tn_3, tn_5, tn_13, tn_21, tn_29, tn_33, tn_37, tn_41, tn_45, tn_49, tn_53, tn_57, tn_61, tn_40, tn_p, tn_0, true_and, and_true, sk_0, sk_1, sk_2, sl_2, sk_3, sl_3, sk_4, sl_4, sk_5, sl_5, sk_6, sl_6, sk_7, sl_7, sk_8, sl_8, sk_9, sl_9, sk_10, sl_10, sk_11, sl_11, sk_12, sl_12, sk_13, sk_14, sl_14, sk_15, sk_40, sk_41, sl_41, sk_330, sl_330, sk_355, sk_356, sl_356, sk_357, sl_357, sk_358, sl_358, sk_359, sl_359, sk_360, sl_360, sk_361, sk_362, sl_362, sk_363, sk_376, sk_377, sl_377, sk_378, sk_379, sl_379, sk_380, sl_380, sk_381, sl_381, sk_382, sl_382, sk_383, sl_383, sk_384, sl_384, sk_385, sl_385, sk_386, sl_386, sk_387, sl_387, sk_388, sl_388, sk_389, sl_389, sk_390, sl_390, sk_391, sl_391, sk_392, sl_392, sk_393, sl_393, sk_394, sl_394, sr_0_0, sr_0_1, sr_0_2, sr_0_3, sr_0_4, sr_0_5, sr_0_6, sr_0_7, sr_0_8, sr_0_9, sr_1_0, sr_1_1, sr_1_2, sr_13_0, sr_15_0, sr_15_2, sr_40_0, sr_355_0, sr_355_1, sr_355_2, sr_355_3, sr_355_4, sr_355_5, sr_361_2, sr_361_5, sr_361_6, sr_363_0, sr_363_1, sr_376_0, sr_376_2, sr_378_0, sr_378_1, sr_378_2, sr_378_4, sr_378_8, sr_378_10, sr_378_11, sr_378_12, sr_378_14, sr_378_20, sr_378_21, sr_378_22, sr_378_23, sr_378_24, sr_378_25, sr_378_26, am_vs, h.k, h.k6, h.r6, h.l6, f2, f3, dk2]
        repeat (first | rw [if_pos (by omega)] | rw [if_neg (by omega)])
        exact ih
  · intro k E' hk hE
    obtain ⟨hRk, hFk, hDk⟩ := hE
    have k8 : k < 8 := by omega
    have hbk := waT_b hT k
    have hkk := kn0_wa hT hkT k (by omega)
    have mk := waT_2 T k
    have o : ∀ i, i < 61 → (waT T k).1 i = T i := fun i hi => waT_o T hi k
    obtain ⟨w5, w13, w21⟩ := hT.2.2.2.2.2.2.1 k k8
    have hw1 := h1T k k8 (by omega)
    have hwn := hneT k k8 (by omega)
    obtain ⟨x, hx⟩ := Int.eq_ofNat_of_zero_le w5.1
    obtain ⟨y, hy⟩ := Int.eq_ofNat_of_zero_le w13.1
    have hxy : x ≠ y := fun e => hwn (by rw [hx, hy, e])
    obtain ⟨E2, ⟨r1, r2, r3⟩, r4⟩ := c_signal (d := d) (w := k) (p := y) (f := x) h hRk hbk hkk k8 (by rw [o 1 (by omega), eT1]; omega) (by rw [o _ (by omega)]; exact hw1) (by omega) (by omega)
    rw [o (21 + k) (by omega)] at r1 r4
    have hb2 := bT_he hbk y x (T (21 + k)) 4
    have hk2 := kn0_he hkk (p := y) (f := x) (by omega) (by omega) (L := T (21 + k)) (k := 4) (by omega)
    have o' : ∀ i, i < 61 → (heT y x (T (21 + k)) (waT T k).1 4).1 i = T i := fun i hi => by rw [heT_o _ _ _ _ hi, o i hi]
    obtain ⟨E3, ⟨z1, z2, z3⟩, z4⟩ := c_signal (d := d) (w := k) (p := x) (f := y) h r1 hb2 hk2 k8 (by rw [o' 1 (by omega), eT1]; omega) (by rw [o' _ (by omega)]; exact hw1) (by omega) (by omega)
    rw [o' (21 + k) (by omega)] at z1 z4
    have m1 := heT_2 4 (p := y) (f := x) (L := T (21 + k)) (t := (waT T k).1)
    have m2 := heT_2 4 (p := x) (f := y) (L := T (21 + k)) (t := (heT y x (T (21 + k)) (waT T k).1 4).1)
    have cm := heT_comm (L := T (21 + k)) (t := (waT T k).1) hxy
    have cm2 := heT_comm2 (L := T (21 + k)) (t := (waT T k).1) hxy
    rw [waT_s, hx, hy, show ((x : Int)).toNat = x from rfl, show ((y : Int)).toNat = y from rfl]
    rw [cm] at z1
    refine ⟨E3, ⟨z1, frL_t (frL_t hFk r2) z2, by rw [z3, r3, hDk]⟩, fun R ih => ?_⟩
    have f1 : E' a 1 = (K1 : Int) := by rw [hRk.1.2.1, o 1 (by omega), eT1, hK1]
    have g1 := hRk.2.1 k k8 (by rw [o 1 (by omega), eT1]; omega)
    have g2' := r1.2.1 k k8 (by rw [o' 1 (by omega), eT1]; omega)
    rw [o _ (by omega), o _ (by omega), hx, hy] at g1
    rw [o' _ (by omega), o' _ (by omega), hx, hy] at g2'
    obtain ⟨g11, g12, -⟩ := g1
    obtain ⟨g21, g22, -⟩ := g2'
    rw [eX3_passDay_14]
    simp (disch := first | omega | simp only [am_ci, am_cr, am_ca]) only [eX3_passDay_15, eX3_passDay_16, eX3_passDay_19, eX3_passDay_22, eX3_passDay_23, eX3_passDay_24, eX3_passDay_25, eX3_passDay_26, eX3_passDay_29, eX3_passDay_30, eX3_passDay_31, eX3_passDay_32, eX3_passDay_35, eX3_passDay_36, eX3_passDay_37, eX3_passDay_40, eX3_passDay_41, eX3_passDay_42, eX3_passDay_43, eX3_passDay_44, eX3_passDay_45, eX3_passDay_46, eX3_passDay_49, eX3_passDay_50, eX3_passDay_51, eX3_passDay_52, eX3_passDay_55, eX3_passDay_56, eX3_passDay_57, eX3_passDay_60, eX3_passDay_61, eX3_passDay_62, eX3_passDay_65, am_bi, Int.reduceEq, Int.reduceLT, Int.reduceLE, Int.reduceToNat, ite_self, Decidable.not_not, not_true_eq_false, not_false_eq_true, ↓reduceIte, am_ci, am_cr, am_ca, am_b0, am_b1, am_ts, am_tn, am_then_some, List.cons_append, List.nil_append, ne_eq, iI_lit, iI_add, iI_sub, iI_mul, iI_neg, iI_lt, iI_le, iI_eq, iI_in, iI_clz, dI_ap, dI_wr, setR_s, wE_R, setR_2, setR_n, setR_o, updI_s, updI_n, updI_2, tl_0, tl_1, tl_2, tl_3, tl_4, tl_5, tl_6, tl_7, tl_8, tl_9, tl_10, tl_11, tl_12, tl_13, tl_14, tl_15, tl_16, tn_3, tn_5, tn_13, tn_21, tn_29, tn_33, tn_37, tn_41, tn_45, tn_49, tn_53, tn_57, tn_61, tn_40, tn_p, tn_0, true_and, and_true, sk_0, sk_1, sk_2, sl_2, sk_3, sl_3, sk_4, sl_4, sk_5, sl_5, sk_6, sl_6, sk_7, sl_7, sk_8, sl_8, sk_9, sl_9, sk_10, sl_10, sk_11, sl_11, sk_12, sl_12, sk_13, sk_14, sl_14, sk_15, sk_40, sk_41, sl_41, sk_330, sl_330, sk_355, sk_356, sl_356, sk_357, sl_357, sk_358, sl_358, sk_359, sl_359, sk_360, sl_360, sk_361, sk_362, sl_362, sk_363, sk_376, sk_377, sl_377, sk_378, sk_379, sl_379, sk_380, sl_380, sk_381, sl_381, sk_382, sl_382, sk_383, sl_383, sk_384, sl_384, sk_385, sl_385, sk_386, sl_386, sk_387, sl_387, sk_388, sl_388, sk_389, sl_389, sk_390, sl_390, sk_391, sl_391, sk_392, sl_392, sk_393, sl_393, sk_394, sl_394, sr_0_0, sr_0_1, sr_0_2, sr_0_3, sr_0_4, sr_0_5, sr_0_6, sr_0_7, sr_0_8, sr_0_9, sr_1_0, sr_1_1, sr_1_2, sr_13_0, sr_15_0, sr_15_2, sr_40_0, sr_355_0, sr_355_1, sr_355_2, sr_355_3, sr_355_4, sr_355_5, sr_361_2, sr_361_5, sr_361_6, sr_363_0, sr_363_1, sr_376_0, sr_376_2, sr_378_0, sr_378_1, sr_378_2, sr_378_4, sr_378_8, sr_378_10, sr_378_11, sr_378_12, sr_378_14, sr_378_20, sr_378_21, sr_378_22, sr_378_23, sr_378_24, sr_378_25, sr_378_26, am_vs, h.k, h.k1, h.r1, h.l1, h.k2, h.r2, h.l2, f1, g11, g12, r4, g21, g22, z4]
    repeat (first | rw [if_pos (by omega)] | rw [if_neg (by omega)])
    simp only at ih
    rw [show (waT T k).2 + (heT y x (T (21 + k)) (waT T k).1 4).2 + (heT x y (T (21 + k)) (heT y x (T (21 + k)) (waT T k).1 4).1 4).2 = (waT T k).2 + (heT x y (T (21 + k)) (waT T k).1 4).2 + (heT y x (T (21 + k)) (heT x y (T (21 + k)) (waT T k).1 4).1 4).2 by omega]
    exact ih
