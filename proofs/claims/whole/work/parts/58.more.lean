theorem byteval : ∀ j, j < 128 → vp_nar .byte (nI j).toInt8.toInt32 = nI j := by decide +kernel
theorem vb1 : vp_nar .boolean (1 : Int32) = 1 := by decide
theorem vb0 : vp_nar .boolean (0 : Int32) = 0 := by decide
theorem tape_add {ln tn : Int32} {by_ tp : Nat → Int32} {n j : Nat} (hn : n < 160) (hj : j < 128) (h : ∀ i, i < n → ∃ c : Nat, c < 128 ∧ by_ i = nI c ∧ tp i = nI c) : zTape (nI n + 1) (upd by_ n (nI j)) (nI n + 1) (upd tp n (nI j)) := by
  refine ⟨n + 1, by omega, nI_1 n, nI_1 n, fun i hi => ?_⟩
  by_cases e : i = n
  · subst e
    exact ⟨j, hj, pk_us, pk_us⟩
  · obtain ⟨c, h1, h2, h3⟩ := h i (by omega)
    exact ⟨c, h1, by rw [pk_un e]; exact h2, by rw [pk_un e]; exact h3⟩
theorem tape_cut {by_ tp : Nat → Int32} {n j : Nat} (hn : n ≤ 160) (hj : j ≤ n) (h : ∀ i, i < n → ∃ c : Nat, c < 128 ∧ by_ i = nI c ∧ tp i = nI c) : zTape (nI j) by_ (nI j) tp := ⟨j, by omega, rfl, rfl, fun i hi => h i (by omega)⟩
theorem seen_cut {ys cs ms : Nat → Int32} {n j : Nat} (hn : n ≤ 6) (hj : j ≤ n) (h : ∀ i, i < n → ∃ y c : Nat, y ≤ 30 ∧ c < 100 ∧ ys i = nI y ∧ cs i = nI c ∧ ms (2 * i) = nI y ∧ ms (2 * i + 1) = nI c) : zSeen (nI j) ys cs (nI j) ms := ⟨j, by omega, rfl, rfl, fun i hi => h i (by omega)⟩
theorem seen_add {ys cs ms : Nat → Int32} {n y c : Nat} (hn : n < 6) (hy : y ≤ 30) (hc : c < 100) (h : ∀ i, i < n → ∃ y c : Nat, y ≤ 30 ∧ c < 100 ∧ ys i = nI y ∧ cs i = nI c ∧ ms (2 * i) = nI y ∧ ms (2 * i + 1) = nI c) : zSeen (nI n + 1) (upd ys n (nI y)) (upd cs n (nI c)) (nI n + 1) (upd (upd ms (2 * n) (nI y)) (2 * n + 1) (nI c)) := by
  refine ⟨n + 1, by omega, nI_1 n, nI_1 n, fun i hi => ?_⟩
  by_cases e : i = n
  · subst e
    refine ⟨y, c, hy, hc, pk_us, pk_us, ?_, pk_us⟩
    rw [pk_un (show ¬ 2 * i = 2 * i + 1 by omega), pk_us]
  · obtain ⟨y', c', h1, h2, h3, h4, h5, h6⟩ := h i (by omega)
    refine ⟨y', c', h1, h2, by rw [pk_un e]; exact h3, by rw [pk_un e]; exact h4, ?_, ?_⟩
    · rw [pk_un (show ¬ 2 * i = 2 * n + 1 by omega), pk_un (show ¬ 2 * i = 2 * n by omega)]; exact h5
    · rw [pk_un (show ¬ 2 * i + 1 = 2 * n + 1 by omega), pk_un (show ¬ 2 * i + 1 = 2 * n by omega)]; exact h6
/-- a town copied: its rows -/
def zct (a b : Nat → Int32) : Nat → Int32 := va_cpy a b (0 : Int32).toNatClampNeg (0 : Int32).toNatClampNeg (20 : Int32).toNatClampNeg
theorem zct_in {a b : Nat → Int32} {j : Nat} (h : j < 20) : zct a b j = a j := by
  unfold zct
  have e0 : (0 : Int32).toNatClampNeg = 0 := by decide
  have e20 : (20 : Int32).toNatClampNeg = 20 := by decide
  rw [e0, e20, pk_cpy_in (by omega) (by omega), show 0 + (j - 0) = j by omega]
theorem zA_ct {T : zTn} {a b : Nat → Int32} (hd : t_d T ≤ 5) (h : zA T a) : zA T (zct a b) := by
  intro i hi
  rw [zct_in (show 4 * i < 20 by omega), zct_in (show 4 * i + 1 < 20 by omega), zct_in (show 4 * i + 2 < 20 by omega), zct_in (show 4 * i + 3 < 20 by omega)]
  exact h i hi
theorem zPg_ct {f g : Nat → Int32} {pg pg2 : Nat} {dr ft po st be ye : Int32} {tr b : Nat → Int32} (h : zPg f pg dr ft po st be ye tr) (hg : ∀ j, j < 26 → g (pg2 + j) = f (pg + j)) : zPg g pg2 dr ft po st be ye (zct tr b) := by
  obtain ⟨T, pt, yr, hw, ⟨e1, e2, e3, e4, e5, e6, e7⟩, hm⟩ := h
  refine ⟨T, pt, yr, hw, ⟨e1, e2, e3, e4, e5, e6, zA_ct hw.1.1 e7⟩, ?_⟩
  obtain ⟨m1, m2, m3, m4, m5, m6, m7⟩ := hm
  have hd := hw.1.1
  refine ⟨by rw [hg 20 (by omega)]; exact m1, by rw [hg 21 (by omega)]; exact m2, by rw [hg 22 (by omega)]; exact m3, by rw [hg 23 (by omega)]; exact m4, by rw [hg 24 (by omega)]; exact m5, by rw [hg 25 (by omega)]; exact m6, fun i hi => ?_⟩
  have q := m7 i hi
  rw [hg i (by omega), show pg2 + 5 + i = pg2 + (5 + i) by omega, hg (5 + i) (by omega), show pg2 + 10 + i = pg2 + (10 + i) by omega, hg (10 + i) (by omega), show pg2 + 15 + i = pg2 + (15 + i) by omega, hg (15 + i) (by omega)]
  rw [show pg + (5 + i) = pg + 5 + i by omega, show pg + (10 + i) = pg + 10 + i by omega, show pg + (15 + i) = pg + 15 + i by omega]
  exact q
theorem zPg_year {f : Nat → Int32} {pg : Nat} {dr ft po st be ye : Int32} {tr : Nat → Int32} (h : zPg f pg dr ft po st be ye tr) : f (pg + 25) = ye := by
  obtain ⟨T, pt, yr, hw, ht, hm⟩ := h
  rw [hm.2.2.2.2.2.1, ht.2.2.2.2.2.1]
