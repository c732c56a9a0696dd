/-! what changes of a page -/
theorem zPg_keep {f g : Nat → Int32} {pg : Nat} {dr ft po st be ye : Int32} {tr : Nat → Int32} (h : zPg f pg dr ft po st be ye tr) (hg : ∀ j, j < 26 → g (pg + j) = f (pg + j)) : zPg g pg dr ft po st be ye tr := by
  obtain ⟨T, pt, yr, hw, ht, hm⟩ := h
  exact ⟨T, pt, yr, hw, ht, zM_congr hw.1.1 hm hg⟩
theorem zIm_keep {f g : Nat → Int32} {pg : Nat} {kx km dr ft po st be ye : Int32} {tr : Nat → Int32} (h : zIm f pg kx km dr ft po st be ye tr) (hg : ∀ j, j < 26 → g (pg + j) = f (pg + j)) : zIm g pg kx km dr ft po st be ye tr := ⟨h.1, h.2.1, fun q => zPg_keep (h.2.2 q) hg⟩
theorem zIm_upd {f : Nat → Int32} {pg j : Nat} {x kx km dr ft po st be ye : Int32} {tr : Nat → Int32} (h : zIm f pg kx km dr ft po st be ye tr) (hj : j < pg) : zIm (upd f j x) pg kx km dr ft po st be ye tr := zIm_keep h (fun i _ => pk_un (by omega))
theorem b_puts {f : Nat → Int32} {a : Nat} {v ls : Int32} (ha : a < 156) : p_X6_puts 1 (nI a) v ls f = some (f a + ls, upd f a (v - ls)) := by
  unfold p_X6_puts
  rw [if_neg (show ¬ (1 : Int32) = 0 by decide), z_get_n ha (by decide), zbs, z_set_n ha (by decide), zbs]
theorem b_puts0 {f : Nat → Int32} {a v ls : Int32} : p_X6_puts 0 a v ls f = some (-1, f) := by
  unfold p_X6_puts
  rw [if_pos rfl]
theorem bit1 : z_bit 1 = some 1 := by decide
theorem bit0 : z_bit 0 = some 0 := by decide
/-- a cell, for both *)-/
theorem arg_cell (x : Int32) : (∃ j, j < 100 ∧ x = nI j ∧ p_X5_isCell x = some 1 ∧ p_X6_isCell x = some 1) ∨ (p_X5_isCell x = some 0 ∧ p_X6_isCell x = some 0 ∧ ¬ ∃ j, j < 100 ∧ x = nI j) := by
  rcases arg_in x (lo := 0) (hi := 99) (by decide) (by decide) with ⟨j, -, hj, e, h1, h2⟩ | ⟨h1, h2, h3⟩
  · left
    have h1' : p_X5_within x (0 : Int32) (99 : Int32) = some 1 := h1
    have h2' : p_X6_in x.toInt64 (0 : Int64) (99 : Int64) = some 1 := h2
    refine ⟨j, by omega, e, ?_, ?_⟩
    · unfold p_X5_isCell; rw [h1', zbs, bit1]; rfl
    · unfold p_X6_isCell; rw [h2', zbs, bit1]; rfl
  · right
    have h1' : p_X5_within x (0 : Int32) (99 : Int32) = some 0 := h1
    have h2' : p_X6_in x.toInt64 (0 : Int64) (99 : Int64) = some 0 := h2
    refine ⟨?_, ?_, fun ⟨j, hj, e⟩ => h3 ⟨j, by omega, by omega, e⟩⟩
    · unfold p_X5_isCell; rw [h1', zbs, bit0]; rfl
    · unfold p_X6_isCell; rw [h2', zbs, bit0]; rfl
/-- what = 0, 1, for both -/
theorem arg_half (x : Int32) : (∃ j, j ≤ 1 ∧ x = nI j ∧ p_X5_isHalf x = some 1 ∧ p_X6_in x.toInt64 (0 : Int64) (1 : Int64) = some 1) ∨ (p_X5_isHalf x = some 0 ∧ p_X6_in x.toInt64 (0 : Int64) (1 : Int64) = some 0) := by
  rcases arg_in x (lo := 0) (hi := 1) (by decide) (by decide) with ⟨j, -, hj, e, h1, h2⟩ | ⟨h1, h2, h3⟩
  · left
    have h1' : p_X5_within x (0 : Int32) (1 : Int32) = some 1 := h1
    refine ⟨j, hj, e, ?_, h2⟩
    unfold p_X5_isHalf; rw [h1', zbs, bit1]; rfl
  · right
    have h1' : p_X5_within x (0 : Int32) (1 : Int32) = some 0 := h1
    refine ⟨?_, h2⟩
    unfold p_X5_isHalf; rw [h1', zbs, bit0]; rfl
theorem zsub_add (x y : Int32) : x - y + y = x := Int32.sub_add_cancel x y
theorem u_st {f : Nat → Int32} {dr ft po st be ye : Int32} {tr : Nat → Int32} (h : zPg f 0 dr ft po st be ye tr) {j : Nat} (hj : j ≤ 20) : f 23 + 2 = st ∧ zPg (upd f 23 (nI j - 2)) 0 dr ft po (nI j) be ye tr := by
  obtain ⟨T, pt, yr, ⟨⟨v1, v2, v3, v4, v5⟩, w2, w3, w4⟩, ⟨e1, e2, e3, e4, e5, e6, e7⟩, ⟨m1, m2, m3, m4, m5, m6, m7⟩⟩ := h
  refine ⟨by rw [e4]; exact m4, (t_d T, t_kd T, t_pl T, t_ca T, t_si T, t_ft T, j, t_be T), pt, yr, ⟨⟨v1, v2, hj, v4, v5⟩, w2, w3, w4⟩, ⟨e1, e2, e3, rfl, e5, e6, e7⟩, ⟨m1, m2, m3, zsub_add _ _, m5, m6, fun i hi => ?_⟩⟩
  have hi' : i < t_d T := hi
  rw [pk_un (show ¬ 0 + i = 23 by omega), pk_un (show ¬ 0 + 5 + i = 23 by omega), pk_un (show ¬ 0 + 10 + i = 23 by omega), pk_un (show ¬ 0 + 15 + i = 23 by omega)]
  exact m7 i hi
theorem u_be {f : Nat → Int32} {dr ft po st be ye : Int32} {tr : Nat → Int32} (h : zPg f 0 dr ft po st be ye tr) {j : Nat} (hj : j ≤ 18) : f 24 + 9 = be ∧ zPg (upd f 24 (nI j - 9)) 0 dr ft po st (nI j) ye tr := by
  obtain ⟨T, pt, yr, ⟨⟨v1, v2, v3, v4, v5⟩, w2, w3, w4⟩, ⟨e1, e2, e3, e4, e5, e6, e7⟩, ⟨m1, m2, m3, m4, m5, m6, m7⟩⟩ := h
  refine ⟨by rw [e5]; exact m5, (t_d T, t_kd T, t_pl T, t_ca T, t_si T, t_ft T, t_st T, j), pt, yr, ⟨⟨v1, v2, v3, hj, v5⟩, w2, w3, w4⟩, ⟨e1, e2, e3, e4, rfl, e6, e7⟩, ⟨m1, m2, m3, m4, zsub_add _ _, m6, fun i hi => ?_⟩⟩
  have hi' : i < t_d T := hi
  rw [pk_un (show ¬ 0 + i = 24 by omega), pk_un (show ¬ 0 + 5 + i = 24 by omega), pk_un (show ¬ 0 + 10 + i = 24 by omega), pk_un (show ¬ 0 + 15 + i = 24 by omega)]
  exact m7 i hi
theorem u_po {f : Nat → Int32} {dr ft po st be ye : Int32} {tr : Nat → Int32} (h : zPg f 0 dr ft po st be ye tr) {j : Nat} (hj : j < 100) : f 22 + 44 = po ∧ zPg (upd f 22 (nI j - 44)) 0 dr ft (nI j) st be ye tr := by
  obtain ⟨T, pt, yr, ⟨⟨v1, v2, v3, v4, v5⟩, w2, w3, w4⟩, ⟨e1, e2, e3, e4, e5, e6, e7⟩, ⟨m1, m2, m3, m4, m5, m6, m7⟩⟩ := h
  refine ⟨by rw [e3]; exact m3, T, j, yr, ⟨⟨v1, v2, v3, v4, v5⟩, hj, w3, w4⟩, ⟨e1, e2, rfl, e4, e5, e6, e7⟩, ⟨m1, m2, zsub_add _ _, m4, m5, m6, fun i hi => ?_⟩⟩
  rw [pk_un (show ¬ 0 + i = 22 by omega), pk_un (show ¬ 0 + 5 + i = 22 by omega), pk_un (show ¬ 0 + 10 + i = 22 by omega), pk_un (show ¬ 0 + 15 + i = 22 by omega)]
  exact m7 i hi
theorem u_dr {f : Nat → Int32} {dr ft po st be ye : Int32} {tr : Nat → Int32} (h : zPg f 0 dr ft po st be ye tr) : ∃ d : Nat, d ≤ 5 ∧ dr = nI d ∧ f 20 = nI d ∧ ∀ j, j ≤ d → zPg (upd f 20 (nI j)) 0 (nI j) ft po st be ye tr := by
  obtain ⟨T, pt, yr, ⟨⟨v1, v2, v3, v4, v5⟩, w2, w3, w4⟩, ⟨e1, e2, e3, e4, e5, e6, e7⟩, ⟨m1, m2, m3, m4, m5, m6, m7⟩⟩ := h
  refine ⟨t_d T, v1, e1, m1, fun j hj => ⟨(j, t_kd T, t_pl T, t_ca T, t_si T, t_ft T, t_st T, t_be T), pt, yr, ⟨⟨Nat.le_trans hj v1, v2, v3, v4, fun i hi => v5 i (Nat.lt_of_lt_of_le hi hj)⟩, w2, w3, fun i hi => w4 i (Nat.lt_of_lt_of_le hi hj)⟩, ⟨rfl, e2, e3, e4, e5, e6, fun i hi => e7 i (Nat.lt_of_lt_of_le hi hj)⟩, ⟨rfl, m2, m3, m4, m5, m6, fun i hi => ?_⟩⟩⟩
  have hi' : i < j := hi
  rw [pk_un (show ¬ 0 + i = 20 by omega), pk_un (show ¬ 0 + 5 + i = 20 by omega), pk_un (show ¬ 0 + 10 + i = 20 by omega), pk_un (show ¬ 0 + 15 + i = 20 by omega)]
  exact m7 i (Nat.lt_of_lt_of_le hi hj)
