section ZN2
variable {T : zTn} {tr f : Nat → Int32} {pt yr : Nat}
/-- brace -/
def zbrace (T : zTn) (pt yr v : Nat) : Bool := decide (zgl (zTst T v) pt yr 60 ≤ t_be T)
theorem a_brace (hV : zV T) (hA : zA T tr) (hp : pt < 100) (hy : yr ≤ 999) (x1 x2 x3 x4 x5 x6 : Int32) (x7 : Nat → Int32) : ∃ j, p_X5_brace (nI (t_d T)) (nI (t_ft T)) (nI pt) (nI (t_st T)) (nI (t_be T)) (nI yr) tr x1 x2 x3 x4 x5 x6 x7 = some (zrs (fa_first (zbrace T pt yr) 21) 21, j) := by
  have one : ∀ (i : Nat) (x : Int32 × Int32 × Int32 × Int32 × Int32 × Int32 × Int32 × (Nat → Int32)), i < 21 → x.1 = nI i → ∃ a b, p_X5_brace_b2 (nI (t_d T)) (nI (t_ft T)) (nI pt) (nI (t_st T)) (nI (t_be T)) (nI yr) tr x = if zbrace T pt yr i = true then some (.inl (.inl (nI i, nI (t_d T), nI (t_ft T), a, nI i, nI (t_be T), b, zct tr x.2.2.2.2.2.2.2))) else some (.inr (nI (i + 1), nI (t_d T), nI (t_ft T), a, nI i, nI (t_be T), b, zct tr x.2.2.2.2.2.2.2)) := by
    rintro i ⟨v, y1, y2, y3, y4, y5, y6, y7⟩ hi hx
    have hx' : v = nI i := hx
    subst hx'
    obtain ⟨a, b, h⟩ := a_fall (T := zTst T i) (zV_st hV (by omega)) (show zA (zTst T i) (zct tr y7) from zA_ct hV.1 hA) hp (yr := yr) (by omega)
    have hk := zfall_iff (zTst T i) pt yr
    generalize fa_first (zfl (zTst T i) pt yr) 61 = k at h hk
    refine ⟨a, b, ?_⟩
    unfold p_X5_brace_b2 p_X4_copyFrom
    rw [if_neg (show ¬ (20 : Int32) < nI i from nI_nlt (a := 20) (by omega) (by decide)), zbs]
    show (p_X4_yearsToFall (nI 60) (nI (t_d T)) (nI (t_ft T)) (nI pt) (nI i) (nI (t_be T)) (nI yr) (zct tr y7)).bind _ = _
    have h' : p_X4_yearsToFall (nI 60) (nI (t_d T)) (nI (t_ft T)) (nI pt) (nI i) (nI (t_be T)) (nI yr) (zct tr y7) = _ := h
    rw [h', zbs]
    dsimp only
    rw [nI_1]
    by_cases q : zbrace T pt yr i = true
    · rw [if_pos q, if_pos (show zrs k 61 = (-4 : Int32) from (zrs_m4 (by decide)).mpr (hk.mpr (of_decide_eq_true q)))]; rfl
    · rw [if_neg q, if_neg (show ¬ zrs k 61 = (-4 : Int32) from fun z => q (decide_eq_true (hk.mp ((zrs_m4 (by decide)).mp z))))]; rfl
  have key := z_lp_first (body := p_X5_brace_b2 (nI (t_d T)) (nI (t_ft T)) (nI pt) (nI (t_st T)) (nI (t_be T)) (nI yr) tr) (zbrace T pt yr) 21 (fun i x => x.1 = nI i) (fun i r => r.1 = nI i) (fun _ => True) 1000 ((0 : Int32), x1, x2, x3, x4, x5, x6, x7)
    (fun i x hi hx hP => by
      obtain ⟨a, b, h⟩ := one i x hi hx
      rw [if_neg (by rw [hP]; decide)] at h
      exact ⟨_, h, rfl⟩)
    (fun i x hi hx hP => by
      obtain ⟨a, b, h⟩ := one i x hi hx
      rw [if_pos hP] at h
      exact ⟨_, h, rfl⟩)
    (fun x hx => by
      refine ⟨(x.2.1, x.2.2.1, x.2.2.2.1, x.2.2.2.2.1, x.2.2.2.2.2.1, x.2.2.2.2.2.2.1, x.2.2.2.2.2.2.2), ?_, trivial⟩
      unfold p_X5_brace_b2
      rw [if_pos (by rw [hx]; decide)])
    rfl (by decide)
  unfold p_X5_brace
  rcases key with ⟨c, r, h1, h2⟩ | ⟨c, r, h1, -⟩
  · rw [h1, zbs, zel, zrs_lt c]
    exact ⟨r.2, by rw [← h2]⟩
  · rw [h1, zbs, zer, zrs_ge c]
    exact ⟨_, rfl⟩
theorem b_brace (hV : zV T) (hM : zM T f 0 (-4) pt yr) (hp : pt < 100) (hy : yr ≤ 999) (x1 x2 x3 : Int32) : ∃ j, p_X6_brace (-4) x1 x2 x3 f = some (zrs (fa_first (zbrace T pt yr) 21) 21, j) ∧ zLo f j.2.2.2 := by
  have one : ∀ (i : Nat) (x : Int32 × Int32 × Int32 × Int32 × (Nat → Int32)), i < 21 → x.1 = nI i ∧ zLo f x.2.2.2.2 → ∃ o : Int32 × Int32 × Int32 × Int32 × (Nat → Int32), zLo f o.2.2.2.2 ∧ p_X6_brace_b2 (-4) x = if zbrace T pt yr i = true then some (.inl (.inl (nI i, o.2.1, o.2.2.1, o.2.2.2.1, o.2.2.2.2))) else some (.inr (nI (i + 1), o.2.1, o.2.2.1, o.2.2.2.1, o.2.2.2.2)) := by
    rintro i ⟨v, y1, y2, y3, g⟩ hi ⟨hx, hlo⟩
    have hx' : v = nI i := hx
    subst hx'
    have hlo' : zLo f g := hlo
    have hM2 : zM (zTst T i) (upd (zcp g 0 130) (130 + 23) (nI i - 2)) 130 (-4) pt yr := zM_st (zM_cp hV.1 (zLo_M hV.1 hlo' hM)) hV.1
    obtain ⟨o, h1, h2, h3⟩ := b_behind (zV_st hV (by omega)) hM2 (zLo_u (zLo_c hlo' (by decide)) (by decide)) hp hy
    refine ⟨o, h3, ?_⟩
    unfold p_X6_brace_b2
    rw [if_neg (show ¬ (20 : Int32) < nI i from nI_nlt (a := 20) (by omega) (by decide)), b_cp130, zbs]
    show (z_set (zcp g 0 130) 156 (153 : Int32) (nI i - 2)).bind _ = _
    rw [z_set_e 153 (show (153 : Int32) = nI 153 from rfl) (by decide) (by decide), zbs, h1, zbs, h2]
    dsimp only
    rw [nI_1]
    by_cases q : zgl (zTst T i) pt yr 60 ≤ t_be T
    · rw [if_pos q, if_pos rfl, if_pos (show zbrace T pt yr i = true from decide_eq_true q)]
    · rw [if_neg q, if_neg (show ¬ (1 : Int32) = 0 by decide), if_neg (show ¬ zbrace T pt yr i = true from fun z => q (of_decide_eq_true z))]
  have key := z_lp_first (body := p_X6_brace_b2 (-4)) (zbrace T pt yr) 21 (fun i x => x.1 = nI i ∧ zLo f x.2.2.2.2) (fun i r => r.1 = nI i ∧ zLo f r.2.2.2.2) (fun r => zLo f r.2.2.2) 1000 ((0 : Int32), x1, x2, x3, f)
    (fun i x hi hx hP => by
      obtain ⟨o, h0, h⟩ := one i x hi hx
      rw [if_neg (by rw [hP]; decide)] at h
      exact ⟨_, h, rfl, h0⟩)
    (fun i x hi hx hP => by
      obtain ⟨o, h0, h⟩ := one i x hi hx
      rw [if_pos hP] at h
      exact ⟨_, h, rfl, h0⟩)
    (fun x hx => by
      refine ⟨(x.2.1, x.2.2.1, x.2.2.2.1, x.2.2.2.2), ?_, hx.2⟩
      unfold p_X6_brace_b2
      rw [if_pos (by rw [hx.1]; decide)])
    ⟨rfl, zLo_r f⟩ (by decide)
  unfold p_X6_brace
  rcases key with ⟨c, r, h1, h2, h3⟩ | ⟨c, r, h1, h3⟩
  · rw [h1, zbs, zel, zrs_lt c]
    exact ⟨r.2, by rw [← h2], h3⟩
  · rw [h1, zbs, zer, zrs_ge c]
    exact ⟨_, rfl, h3⟩
end ZN2
