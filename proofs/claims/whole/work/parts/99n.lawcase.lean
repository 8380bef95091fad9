/-! ===== the law's cases, by program ===== -/
theorem lw_p (xs : Nat → Int32) (i k : Nat) {E : Nat → Nat → Int} (hG : GG E) (hk : k < 32) : ∃ pc n i1 i2 jc jm, lw_O[k]? = some (pc, n) ∧ lw_D pc n i1 i2 ∧ lw_L jc jm i1 i2 ∧ n ≤ 5 ∧ pub jc jm (lwA xs (i + 1) n) E := by
  have T : ∀ x : Int32, i32 x.toInt := i32x
  match k, hk with
  | 0, _ => exact ⟨176, 3, 13, 17, 90, 133, rfl, lw_d0, lw_l0, by omega, by have h := p_row (T (xs (i + 1))) (T (xs (i + 1 + 1))) (T (xs (i + 1 + 1 + 1))) hG; (try simp only [← iI_of] at h); exact h⟩
  | 1, _ => exact ⟨219, 3, 18, 21, 95, 138, rfl, lw_d1, lw_l1, by omega, by have h := p_set (T (xs (i + 1))) (T (xs (i + 1 + 1))) (T (xs (i + 1 + 1 + 1))) hG; (try simp only [← iI_of] at h); exact h⟩
  | 2, _ => exact ⟨262, 5, 22, 26, 96, 139, rfl, lw_d2, lw_l2, by omega, by have h := p_copy (T (xs (i + 1))) (T (xs (i + 1 + 1))) (T (xs (i + 1 + 1 + 1))) (T (xs (i + 1 + 1 + 1 + 1))) (T (xs (i + 1 + 1 + 1 + 1 + 1))) hG; (try simp only [← iI_of] at h); exact h⟩
  | 3, _ => exact ⟨325, 1, 27, 31, 97, 140, rfl, lw_d3, lw_l3, by omega, by have h := p_drop (T (xs (i + 1))) hG; (try simp only [← iI_of] at h); exact h⟩
  | 4, _ => exact ⟨348, 1, 32, 35, 98, 141, rfl, lw_d4, lw_l4, by omega, by have h := p_feed (T (xs (i + 1))) hG; (try simp only [← iI_of] at h); exact h⟩
  | 5, _ => exact ⟨371, 0, 36, 40, 99, 142, rfl, lw_d5, lw_l5, by omega, by have h := p_league  hG; (try simp only [← iI_of] at h); exact h⟩
  | 6, _ => exact ⟨384, 0, 41, 44, 100, 153, rfl, lw_d6, lw_l6, by omega, by have h := p_fault  hG; (try simp only [← iI_of] at h); exact h⟩
  | 7, _ => exact ⟨397, 1, 45, 48, 101, 154, rfl, lw_d7, lw_l7, by omega, by have h := p_happen (T (xs (i + 1))) hG; (try simp only [← iI_of] at h); exact h⟩
  | 8, _ => exact ⟨420, 2, 49, 53, 102, 159, rfl, lw_d8, lw_l8, by omega, by have h := p_sail (T (xs (i + 1))) (T (xs (i + 1 + 1))) hG; (try simp only [← iI_of] at h); exact h⟩
  | 9, _ => exact ⟨453, 1, 54, 57, 103, 165, rfl, lw_d9, lw_l9, by omega, by have h := p_days (T (xs (i + 1))) hG; (try simp only [← iI_of] at h); exact h⟩
  | 10, _ => exact ⟨476, 0, 58, 61, 104, 169, rfl, lw_d10, lw_l10, by omega, by have h := p_undo  hG; (try simp only [← iI_of] at h); exact h⟩
  | 11, _ => exact ⟨489, 2, 62, 65, 105, 170, rfl, lw_d11, lw_l11, by omega, by have h := p_ship (T (xs (i + 1))) (T (xs (i + 1 + 1))) hG; (try simp only [← iI_of] at h); exact h⟩
  | 12, _ => exact ⟨522, 2, 66, 69, 106, 171, rfl, lw_d12, lw_l12, by omega, by have h := p_port (T (xs (i + 1))) (T (xs (i + 1 + 1))) hG; (try simp only [← iI_of] at h); exact h⟩
  | 13, _ => exact ⟨555, 2, 70, 73, 107, 173, rfl, lw_d13, lw_l13, by omega, by have h := p_news (T (xs (i + 1))) (T (xs (i + 1 + 1))) hG; (try simp only [← iI_of] at h); exact h⟩
  | 14, _ => exact ⟨588, 2, 74, 77, 108, 175, rfl, lw_d14, lw_l14, by omega, by have h := p_knows (T (xs (i + 1))) (T (xs (i + 1 + 1))) hG; (try simp only [← iI_of] at h); exact h⟩
  | 15, _ => exact ⟨621, 2, 78, 81, 109, 177, rfl, lw_d15, lw_l15, by omega, by have h := p_takes (T (xs (i + 1))) (T (xs (i + 1 + 1))) hG; (try simp only [← iI_of] at h); exact h⟩
  | 16, _ => exact ⟨654, 2, 82, 85, 110, 178, rfl, lw_d16, lw_l16, by omega, by have h := p_ahead (T (xs (i + 1))) (T (xs (i + 1 + 1))) hG; (try simp only [← iI_of] at h); exact h⟩
  | 17, _ => exact ⟨687, 3, 86, 89, 112, 180, rfl, lw_d17, lw_l17, by omega, by have h := p_carried (T (xs (i + 1))) (T (xs (i + 1 + 1))) (T (xs (i + 1 + 1 + 1))) hG; (try simp only [← iI_of] at h); exact h⟩
  | 18, _ => exact ⟨730, 4, 90, 94, 113, 185, rfl, lw_d18, lw_l18, by omega, by have h := p_fame (T (xs (i + 1))) (T (xs (i + 1 + 1))) (T (xs (i + 1 + 1 + 1))) (T (xs (i + 1 + 1 + 1 + 1))) hG; (try simp only [← iI_of] at h); exact h⟩
  | 19, _ => exact ⟨783, 3, 95, 98, 114, 190, rfl, lw_d19, lw_l19, by omega, by have h := p_overtaken (T (xs (i + 1))) (T (xs (i + 1 + 1))) (T (xs (i + 1 + 1 + 1))) hG; (try simp only [← iI_of] at h); exact h⟩
  | 20, _ => exact ⟨826, 2, 99, 102, 115, 191, rfl, lw_d20, lw_l20, by omega, by have h := p_sure (T (xs (i + 1))) (T (xs (i + 1 + 1))) hG; (try simp only [← iI_of] at h); exact h⟩
  | 21, _ => exact ⟨859, 3, 103, 106, 116, 193, rfl, lw_d21, lw_l21, by omega, by have h := p_began (T (xs (i + 1))) (T (xs (i + 1 + 1))) (T (xs (i + 1 + 1 + 1))) hG; (try simp only [← iI_of] at h); exact h⟩
  | 22, _ => exact ⟨902, 5, 107, 110, 118, 194, rfl, lw_d22, lw_l22, by omega, by have h := p_odds (T (xs (i + 1))) (T (xs (i + 1 + 1))) (T (xs (i + 1 + 1 + 1))) (T (xs (i + 1 + 1 + 1 + 1))) (T (xs (i + 1 + 1 + 1 + 1 + 1))) hG; (try simp only [← iI_of] at h); exact h⟩
  | 23, _ => exact ⟨965, 5, 111, 114, 120, 195, rfl, lw_d23, lw_l23, by omega, by have h := p_followed (T (xs (i + 1))) (T (xs (i + 1 + 1))) (T (xs (i + 1 + 1 + 1))) (T (xs (i + 1 + 1 + 1 + 1))) (T (xs (i + 1 + 1 + 1 + 1 + 1))) hG; (try simp only [← iI_of] at h); exact h⟩
  | 24, _ => exact ⟨1028, 1, 115, 118, 123, 198, rfl, lw_d24, lw_l24, by omega, by have h := p_image (T (xs (i + 1))) hG; (try simp only [← iI_of] at h); exact h⟩
  | 25, _ => exact ⟨1051, 1, 119, 122, 124, 199, rfl, lw_d25, lw_l25, by omega, by have h := p_restore (T (xs (i + 1))) hG; (try simp only [← iI_of] at h); exact h⟩
  | 26, _ => exact ⟨1074, 1, 123, 126, 125, 200, rfl, lw_d26, lw_l26, by omega, by have h := p_kind (T (xs (i + 1))) hG; (try simp only [← iI_of] at h); exact h⟩
  | 27, _ => exact ⟨1097, 2, 127, 130, 126, 201, rfl, lw_d27, lw_l27, by omega, by have h := p_as (T (xs (i + 1))) (T (xs (i + 1 + 1))) hG; (try simp only [← iI_of] at h); exact h⟩
  | 28, _ => exact ⟨1130, 2, 131, 134, 128, 203, rfl, lw_d28, lw_l28, by omega, by have h := p_ask (T (xs (i + 1))) (T (xs (i + 1 + 1))) hG; (try simp only [← iI_of] at h); exact h⟩
  | 29, _ => exact ⟨1163, 1, 135, 138, 129, 207, rfl, lw_d29, lw_l29, by omega, by have h := p_trace (T (xs (i + 1))) hG; (try simp only [← iI_of] at h); exact h⟩
  | 30, _ => exact ⟨1186, 1, 139, 142, 130, 208, rfl, lw_d30, lw_l30, by omega, by have h := p_count (T (xs (i + 1))) hG; (try simp only [← iI_of] at h); exact h⟩
  | 31, _ => exact ⟨1209, 0, 143, 146, 131, 209, rfl, lw_d31, lw_l31, by omega, by have h := p_status  hG; (try simp only [← iI_of] at h); exact h⟩
  | k + 32, hk => exact absurd hk (by omega)
