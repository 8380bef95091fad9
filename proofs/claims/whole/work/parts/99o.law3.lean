/-! ===== the law from its entry ===== -/
theorem d_law_0 : decode code 0 = .ok (.new 7, 3) := by decide +kernel
theorem d_law_3 : decode code 3 = .ok (.dup, 1) := by decide +kernel
theorem d_law_4 : decode code 4 = .ok (.invokespecial 9, 3) := by decide +kernel
theorem d_law_7 : decode code 7 = .ok (.astore_n 1, 1) := by decide +kernel
theorem d_law_8 : decode code 8 = .ok (.new 10, 3) := by decide +kernel
theorem d_law_11 : decode code 11 = .ok (.dup, 1) := by decide +kernel
theorem d_law_12 : decode code 12 = .ok (.invokespecial 12, 3) := by decide +kernel
theorem d_law_15 : decode code 15 = .ok (.astore_n 2, 1) := by decide +kernel
theorem d_law_16 : decode code 16 = .ok (.iconst 0, 1) := by decide +kernel
theorem d_law_17 : decode code 17 = .ok (.istore_n 3, 1) := by decide +kernel
theorem d_law_18 : decode code 18 = .ok (.iload_n 3, 1) := by decide +kernel
theorem d_law_19 : decode code 19 = .ok (.aload_n 0, 1) := by decide +kernel
theorem d_law_20 : decode code 20 = .ok (.arraylength, 1) := by decide +kernel
theorem d_law_21 : decode code 21 = .ok (.bipush 6, 2) := by decide +kernel
theorem d_law_23 : decode code 23 = .ok (.isub, 1) := by decide +kernel
theorem d_law_24 : decode code 24 = .ok (.if_icmp .gt 1204, 3) := by decide +kernel
theorem d_law_27 : decode code 27 = .ok (.aload_n 0, 1) := by decide +kernel
theorem d_law_28 : decode code 28 = .ok (.iload_n 3, 1) := by decide +kernel
theorem d_law_29 : decode code 29 = .ok (.iaload, 1) := by decide +kernel
theorem d_law_30 : decode code 30 = .ok (.bipush 31, 2) := by decide +kernel
theorem d_law_32 : decode code 32 = .ok (.iand, 1) := by decide +kernel
def lw_offs : Array Int := #[143, 186, 229, 292, 315, 338, 351, 364, 387, 420, 443, 456, 489, 522, 555, 588, 621, 654, 697, 750, 793, 826, 869, 932, 995, 1018, 1041, 1064, 1097, 1130, 1153, 1176]
theorem d_law_33 : decode code 33 = .ok (.tableswitch 1189 0 31 lw_offs, 143) := by decide +kernel
theorem lw_off : ∀ k, k < 32 → lw_offs[k]? = (lw_O[k]?).map (fun x => (x.1 : Int) - 33) := by decide +kernel
theorem d_law_1222 : decode code 1222 = .ok (.iinc 3 6, 3) := by decide +kernel
theorem d_law_1225 : decode code 1225 = .ok (.goto (-1207), 3) := by decide +kernel
theorem d_law_1228 : decode code 1228 = .ok (.iconst 1, 1) := by decide +kernel
theorem d_law_1229 : decode code 1229 = .ok (.ireturn, 1) := by decide +kernel
theorem and31 (x : Int32) : ∃ k, k < 32 ∧ x &&& 31 = nI k := by
  refine ⟨(x.toBitVec &&& 31#32).toNat, ?_, ?_⟩
  · rw [BitVec.toNat_and]
    have h := @Nat.and_le_right x.toBitVec.toNat 31
    have h2 : (31#32 : BitVec 32).toNat = 31 := rfl
    rw [h2]
    omega
  · apply Int32.toBitVec_inj.mp
    show x.toBitVec &&& 31#32 = BitVec.ofNat 32 (x.toBitVec &&& 31#32).toNat
    rw [BitVec.ofNat_toNat, BitVec.setWidth_eq]
theorem lw_ctx {s : State} {args : Array Value} (hts : ∀ w ∈ lw_tbl, w.before args s = true) : ∃ (q : am_Q) (Dg : va_G), va_K Dg vwCl (am_tys q) s ∧ am_xt s := by
  have hc : ∀ ci : Nat, ∃ x : ClassId × (Nat → Nat), ∀ r : vw_C, vwCl[ci]? = some r → u_Kn s r.1 r.2.1 r.2.2 x.1 x.2 := by
    intro ci
    by_cases h : ci < 11
    · obtain ⟨cq, hcq⟩ : ∃ x, vwCl[ci]? = some x := ⟨_, List.getElem?_eq_getElem (show ci < vwCl.length from h)⟩
      obtain ⟨CN, T, N⟩ := cq
      obtain ⟨h1, h2, h3, -⟩ := am_cls hcq
      obtain ⟨cC, iS, hk⟩ := u_known (C := CN) (T := T) (N := N) (n := am_nf ci) hts h1 (by rw [h3]; exact hts _ (lw_i h))
      exact ⟨(cC, iS), fun r hr => by rw [hcq] at hr; cases hr; exact hk⟩
    · exact ⟨(0, fun _ => 0), fun r hr => by rw [List.getElem?_eq_none (show vwCl.length ≤ ci by show 11 ≤ ci; omega)] at hr; cases hr⟩
  obtain ⟨c1, k1, p1, f1, g1, e1⟩ := Cond.arrayClass_spec (hts _ am_t_ai)
  obtain ⟨c2, k2, p2, f2, g2, e2⟩ := Cond.arrayClass_spec (hts _ am_t_az)
  obtain ⟨p3, c3, k3, a3, -, g3, e3, f3⟩ := Cond.arrayOver_spec (hts _ lw_ao.1)
  obtain ⟨p4, c4, k4, a4, -, g4, e4, f4⟩ := arrayOverA_spec (hts _ lw_ao.2)
  refine ⟨(c1, c2, c3, c4), (fun c => (hc c).choose.1, fun c => (hc c).choose.2), ⟨fun c r hr => (hc c).choose_spec r hr, fun k r hk => ?_⟩, fun w hw hn => ?_, va_AO.of (hts _ lw_ao.1), hts _ lw_ao.2⟩
  · match k, hk with
    | 0, hk => cases hk; exact ⟨fun N z => ⟨(fun k h => by cases h), k1, g1, p1, e1⟩, f1⟩
    | 1, hk => cases hk; exact ⟨fun N z => ⟨(fun k h => by cases h), k2, g2, p2, e2⟩, f2⟩
    | 2, hk => cases hk; exact ⟨fun N z => ⟨(fun k h => by cases h), k3, g3, p3, e3⟩, k3, p3, g3, e3, a3, f3⟩
    | 3, hk => cases hk; exact ⟨fun N z => ⟨(fun k h => by cases h), k4, g4, p4, e4⟩, f4⟩
    | k + 4, hk => cases hk
  · have h := hts w hw
    cases w <;> first | exact va_Nw.of rfl h | cases hn
section
variable {p : Program} {l : Launch} {e : Env} {s : State} {m : MethodId} {below : List Frame} {meth : Method} {c : Code} {q : am_Q} {Dg : va_G} {b L : Nat} {xs : Nat → Int32}
set_option maxHeartbeats 4000000 in
set_option maxRecDepth 100000 in
theorem lw_loop (C : lw_Cx p s m meth c b L xs q Dg) : ∀ (n i : Nat) (E : Nat → Nat → Int) (H : Heap) (locs : List Loc) (als : Array Slot), L < i + n → i ≤ L → GG E → am_St s.heap.size q Dg s 0 0 am_S0 (dI E) H locs → lv_has als 4 [(0, .ref b), (1, .ref s.heap.size), (2, .ref (s.heap.size + 378)), (3, .int (nI i))] →
    W p l e room_1 s m #[.ref b] below meth c H locs 395 30461 (lw_Z below #[.ref b] s) (F0 m 18 als []) := by
  obtain ⟨⟨hx, hb, hrt, hml, hown, hts0, hX, hbl, hlocks, hgv⟩, hL, hK, hxt⟩ := id C
  have hbA : ¬ (fun x => s.heap.size ≤ x) b := Nat.not_le.mpr hbl
  intro n
  induction n with
  | zero => intro i E H locs als h1 h2; omega
  | succ n ih =>
    intro i E H locs als h1 h2 hG hS hl
    have eL : (Int32.ofNat L) - 6 = iI ((L : Int) - 6) := by
      show nI L - 6 = _
      rw [iI_nI, iI_lit, iI_sub]
    refine lv_iload_n hx hb d_law_18 rfl (lv_at hl 3 rfl) ?_
    refine lv_aload_n hx hb d_law_19 rfl (lv_at hl 0 rfl) ?_
    refine va_slen (A := fun x => s.heap.size ≤ x) hx hb hX hbl hbA hS.2.1 d_law_20 ?_
    refine lv_bipush (v := 6) hx hb d_law_21 (by decide) ?_
    refine lv_isub hx hb d_law_23 ?_
    refine lv_icmp_gt (tgt := 1228) hx hb d_law_24 (by decide) (fun c_10 => ?_) (fun c_10 => ?_)
    · refine lv_iconst (v := 1) hx hb d_law_1228 (by decide) ?_
      refine va_forget (fun q hq => hS.2.1.2.2 q hq) ?_
      refine W.widen (k := 600000) (n := 7302249) (by decide) (by decide) ?_
      exact lw_ret hx hb hrt hlocks d_law_1229
    · have hi : i + 6 ≤ L := by
        rw [eL, iI_nI, iI_lt (by omega) (by omega) (by omega) (by omega)] at c_10
        omega
      refine lv_aload_n hx hb d_law_27 rfl (lv_at hl 0 rfl) ?_
      refine lv_iload_n hx hb d_law_28 rfl (lv_at hl 3 rfl) ?_
      refine va_sld (A := fun x => s.heap.size ≤ x) hx hb hX hbl hbA hS.2.1 (vp_in_nI (show i < L by omega) (by omega)) d_law_29 ?_
      refine lv_bipush (v := 31) hx hb d_law_30 (by decide) ?_
      refine lv_iand hx hb d_law_32 ?_
      obtain ⟨k, hk, ek⟩ := and31 (xs (nI i).toNatClampNeg)
      rw [ek]
      obtain ⟨pc, n1, i1, i2, jc, jm, hO, hd, hj, hn, hp⟩ := lw_p xs i k hG hk
      have ev : (nI k).toInt = k := by rw [iI_nI]; exact iI_toInt (by omega) (by omega)
      refine lv_tableIn (off := (pc : Int) - 33) (tgt := pc) hx hb d_law_33 (by rw [ev]; omega) (by rw [ev]; omega) (by rw [ev, show ((k : Int) - 0).toNat = k by omega, lw_off k hk, hO]; rfl) (by omega) ?_
      refine lw_case C hS hl hi hn hd hj hp fun H1 locs1 E1 hG1 hS1 => ?_
      refine lv_iinc (v := nI (i + 6)) (lv' := [(3, .int (nI (i + 6))), (0, .ref b), (1, .ref s.heap.size), (2, .ref (s.heap.size + 378))]) hx hb d_law_1222 hl (k := 3) rfl (by show nI i + iI 6 = _; rw [iI_nI, iI_nI, iI_add]; congr 1) (by decide) rfl (fun ls hl => ?_)
      refine lv_goto (tgt := 18) hx hb d_law_1225 (by decide) ?_
      exact ih (i + 6) E1 H1 locs1 ls (by omega) hi hG1 hS1 (lv_sub hl [1, 2, 3, 0] rfl)
end
theorem sn_0 : am_ln am_S0 0 = 12 := by decide +kernel
theorem sn_378 : am_ln am_S0 378 = 27 := by decide +kernel
theorem nf_9 : am_nf 9 = 12 := by decide +kernel
theorem nf_10 : am_nf 10 = 27 := by decide +kernel
set_option maxHeartbeats 4000000 in
set_option maxRecDepth 100000 in
/-- THE LAW, from its entry -/
theorem whole_start {p : Program} {e : Env} {s : State} {m : MethodId} {below : List Frame} {meth : Method} {c : Code} (l : Launch) {b L : Nat} {xs : Nat → Int32} (hL : L ≤ 384) (C0 : lw_At p s m meth c b L xs) : W p l e room_1 s m #[Value.ref b] below meth c s.heap [] 0 0 (lw_Z below #[Value.ref b] s) (entryFrame m ([Value.ref b] : List Value).toArray 4) := by
  obtain ⟨hx, hb, hr, hml, hown, hts, hX, hbl, hlocks, hgv⟩ := id C0
  obtain ⟨q, Dg, hK, hxt⟩ := lw_ctx hts
  have C : lw_Cx p s m meth c b L xs q Dg := ⟨C0, hL, hK, hxt⟩
  have hl := lv_entry ([.ref b]) (n := 4) (Nat.le_of_ble_eq_true rfl)
  rw [lg_entry_eq]
  generalize (lg_sl ([.ref b]) ++ List.replicate (4 - (lg_sl ([.ref b])).length) Slot.unset).toArray = ls at hl ⊢
  have hl : lv_has ls 4 [(0, .ref b)] := hl
  have hS : am_St s.heap.size q Dg s 0 0 (am_Sx 0 0 am_rf0) (dI E0) s.heap [] := by
    have h0 : va_P Dg vwCl (am_wld q s.heap.size (am_Sx 0 0 am_rf0) (dI E0)) s.heap := fun k x h => by
      have h1 := (am_wld_at h).1
      rw [sx_x] at h1
      omega
    exact ⟨h0, va_S.rf, sx_wS _ _ _, Nat.le_refl _, Nat.le_refl _⟩
  have W0 := lw_nw (p := p) (l := l) (e := e) (below := below) (Q := lw_Z below #[Value.ref b] s) (als := ls) (rest := []) C lw_w9.1 (lw_i (ci := 9) (by omega)) lw_w9.2 (by omega) d_law_0 (by rw [nf_9]; decide) hS
  refine W0 fun H hS => ?_
  rw [nf_9, show am_nw (am_Sx 0 0 am_rf0) (9 + 5) 12 = am_Sx 1 12 (rfC am_rf0 0) from sx_n sk_0 sn_0, show am_zr (dI E0) (am_nx (am_Sx 0 0 am_rf0)) = dI E0 from zr_0 0 (by omega)] at hS
  rw [nf_9]
  refine lv_dup hx hb d_law_3 rfl ?_
  obtain ⟨M1, a1, a2, a3, a4⟩ := lw_l9i
  have W1 := lw_ci (p := p) (l := l) (e := e) (below := below) (Q := lw_Z below #[Value.ref b] s) (als := ls) (rest := [.ref (s.heap.size + 0)]) C a1 a2 a4 (i_news (d := 5)) d_law_4 (by show 1 + 0 ≤ 8; decide) hl.1 (by decide) hS
  refine W1 fun H1 locs1 hS1 => ?_
  refine lv_astore_n (lv' := [(1, .ref s.heap.size), (0, .ref b)]) hx hb d_law_7 rfl hl (by decide) rfl (fun ls hl => ?_)
  have W2 := lw_nw (p := p) (l := l) (e := e) (below := below) (Q := lw_Z below #[Value.ref b] s) (als := ls) (rest := []) C lw_w10.1 (lw_i (ci := 10) (by omega)) lw_w10.2 (by omega) d_law_8 (by rw [nf_10]; decide) hS1
  refine W2 fun H2 hS2 => ?_
  rw [nf_10, show am_nw (am_Sx 378 3633 am_rf0) (10 + 5) 27 = am_Sx 379 3660 (rfC am_rf0 378) from sx_n sk_378 sn_378, show am_zr (dI E0) (am_nx (am_Sx 378 3633 am_rf0)) = dI E0 from zr_0 378 (by omega)] at hS2
  rw [nf_10]
  refine lv_dup hx hb d_law_11 rfl ?_
  obtain ⟨M2, b1, b2, b3, b4⟩ := lw_l10i
  have W3 := lw_ci (p := p) (l := l) (e := e) (below := below) (Q := lw_Z below #[Value.ref b] s) (als := ls) (rest := [.ref (s.heap.size + 378)]) C b1 b2 b4 (i_model (d := 7)) d_law_12 (by show 1 + 0 ≤ 8; decide) hl.1 (by decide) hS2
  refine W3 fun H3 locs3 hS3 => ?_
  refine lv_astore_n (lv' := [(2, .ref (s.heap.size + 378)), (1, .ref s.heap.size), (0, .ref b)]) hx hb d_law_15 rfl hl (by decide) rfl (fun ls hl => ?_)
  refine lv_iconst (v := nI 0) hx hb d_law_16 (by decide) ?_
  refine lv_istore_n (lv' := [(3, .int (nI 0)), (2, .ref (s.heap.size + 378)), (1, .ref s.heap.size), (0, .ref b)]) hx hb d_law_17 rfl hl (by decide) rfl (fun ls hl => ?_)
  exact lw_loop C (L + 1) 0 E0 H3 locs3 ls (by omega) (Nat.zero_le L) GG_0 hS3 (lv_sub hl [3, 2, 1, 0] rfl)
