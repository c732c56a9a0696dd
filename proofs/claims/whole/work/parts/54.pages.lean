/-! THE REFERENCE: pages copied, years on them -/
theorem zcpy_s (f g : Nat → Int32) (a b n : Nat) : upd (va_cpy f g a b n) (b + n) (f (a + n)) = va_cpy f g a b (n + 1) := by
  funext j
  unfold upd va_cpy
  by_cases e : j = b + n
  · subst e
    rw [if_pos rfl, if_pos ⟨by omega, by omega⟩, show b + n - b = n by omega]
  · rw [if_neg e]
    by_cases c : b ≤ j ∧ j < b + n
    · rw [if_pos c, if_pos ⟨c.1, by omega⟩]
    · rw [if_neg c, if_neg (by omega)]
theorem zcpy_0 (f g : Nat → Int32) (a b : Nat) : va_cpy f g a b 0 = g := by
  funext j
  unfold va_cpy
  rw [if_neg (by omega)]
/-- f with page a copied to page b -/
def zcp (f : Nat → Int32) (a b : Nat) : Nat → Int32 := va_cpy f f a b 26
theorem zcp_in {f : Nat → Int32} {a b j : Nat} (h : j < 26) : zcp f a b (b + j) = f (a + j) := by
  unfold zcp
  rw [pk_cpy_in (by omega) (by omega), show b + j - b = j by omega]
theorem zcp_out {f : Nat → Int32} {a b j : Nat} (h : j < b ∨ b + 26 ≤ j) : zcp f a b j = f j := by
  unfold zcp
  rw [pk_cpy_out h]
theorem b_copies {f : Nat → Int32} {a b : Nat} (ha : a ≤ 130) (hb : b ≤ 130) (hd : a + 26 ≤ b ∨ b + 26 ≤ a) : p_X6_copies (nI a) (nI b) f = some (zcp f a b) := by
  have run := z_lp_run (body := p_X6_copies_b2 (nI a) (nI b)) (r := zcp f a b) 26 (fun i => (nI i, va_cpy f f a b i)) 1000 ?_ ?_ (by decide)
  · unfold p_X6_copies
    have e0 : ((0 : Int32), f) = (fun i => (nI i, va_cpy f f a b i)) 0 := by
      show _ = (nI 0, va_cpy f f a b 0)
      rw [zcpy_0]; rfl
    rw [e0, run]
    rfl
  · intro i hi
    show p_X6_copies_b2 (nI a) (nI b) (nI i, va_cpy f f a b i) = _
    unfold p_X6_copies_b2
    rw [if_neg (show ¬ (26 : Int32) ≤ nI i from nI_ge (b := 26) hi (by decide))]
    show (z_get (va_cpy f f a b i) 156 (nI a + nI i)).bind _ = _
    rw [z_get_e (a + i) (nI_add _ _) (by omega) (by decide), zbs, pk_cpy_out (by omega)]
    show (z_set (va_cpy f f a b i) 156 (nI b + nI i) (f (a + i))).bind _ = _
    rw [z_set_e (b + i) (nI_add _ _) (by omega) (by decide), zbs, nI_1, zcpy_s]
  · show p_X6_copies_b2 (nI a) (nI b) (nI 26, va_cpy f f a b 26) = _
    unfold p_X6_copies_b2
    rw [if_pos (show (26 : Int32) ≤ nI 26 by decide)]
    rfl
section ZP
variable {T : zTn} {f : Nat → Int32} {sil : Int32} {pt yr : Nat}
theorem zM_cp {a b : Nat} (hd : t_d T ≤ 5) (hM : zM T f a sil pt yr) : zM T (zcp f a b) b sil pt yr := by
  obtain ⟨h1, h2, h3, h4, h5, h6, h7⟩ := hM
  refine ⟨by rw [zcp_in (by omega)]; exact h1, by rw [zcp_in (by omega)]; exact h2, by rw [zcp_in (by omega)]; exact h3, by rw [zcp_in (by omega)]; exact h4, by rw [zcp_in (by omega)]; exact h5, by rw [zcp_in (by omega)]; exact h6, fun i hi => ?_⟩
  rw [zcp_in (by omega), show b + 5 + i = b + (5 + i) by omega, zcp_in (by omega), show b + 10 + i = b + (10 + i) by omega, zcp_in (by omega), show b + 15 + i = b + (15 + i) by omega, zcp_in (by omega)]
  have q := h7 i hi
  rw [show a + (5 + i) = a + 5 + i by omega, show a + (10 + i) = a + 10 + i by omega, show a + (15 + i) = a + 15 + i by omega]
  exact q
/-- a page that another function agrees with -/
theorem zM_congr {g : Nat → Int32} {a : Nat} (hd : t_d T ≤ 5) (hM : zM T f a sil pt yr) (h : ∀ j, j < 26 → g (a + j) = f (a + j)) : zM T g a sil pt yr := by
  obtain ⟨h1, h2, h3, h4, h5, h6, h7⟩ := hM
  refine ⟨by rw [h 20 (by omega)]; exact h1, by rw [h 21 (by omega)]; exact h2, by rw [h 22 (by omega)]; exact h3, by rw [h 23 (by omega)]; exact h4, by rw [h 24 (by omega)]; exact h5, by rw [h 25 (by omega)]; exact h6, fun i hi => ?_⟩
  have q := h7 i hi
  rw [h i (by omega), show a + 5 + i = a + (5 + i) by omega, h (5 + i) (by omega), show a + 10 + i = a + (10 + i) by omega, h (10 + i) (by omega), show a + 15 + i = a + (15 + i) by omega, h (15 + i) (by omega)]
  rw [show a + (5 + i) = a + 5 + i by omega, show a + (10 + i) = a + 10 + i by omega, show a + (15 + i) = a + 15 + i by omega]
  exact q
theorem zyr_yr (f : Nat → Int32) (pg p1 y1 p2 y2 : Nat) : zyr (zyr f pg p1 y1) pg p2 y2 = zyr f pg p2 y2 := by
  funext j
  by_cases h1 : j = pg + 25
  · simp [zyr, upd, h1]
  · by_cases h2 : j = pg + 22
    · simp [zyr, upd, h2]
    · simp [zyr, upd, h1, h2]
theorem zyr_same {pg : Nat} (hM : zM T f pg sil pt yr) : zyr f pg pt yr = f := by
  unfold zyr
  rw [fa_upd_same' (zm44' hM.2.2.1), fa_upd_same' hM.2.2.2.2.2.1]
theorem zyr_out {pg p y j : Nat} (h : j < pg ∨ pg + 26 ≤ j) : zyr f pg p y j = f j := by
  unfold zyr
  rw [pk_un (by omega), pk_un (by omega)]
/-- years on a page: the state behind i of them -/
theorem b_yearI (hV : zV T) {pg : Nat} (hM : zM T f pg sil pt yr) (hg : pg ≤ 130) (hp : pt < 100) {i : Nat} (hy : yr + i < 1000000) : p_X6_yearOn (nI pg) sil (zyr f pg (zps T pt yr i) (yr + i)) = some (zyr f pg (zps T pt yr (i + 1)) (yr + (i + 1))) := by
  have hM2 := zyr_M hM (zps T pt yr i) (yr + i) hV.1
  rw [b_year hV hM2 hg (zps_lt hV hp i) hy, zyr_yr]
  rfl
end ZP
