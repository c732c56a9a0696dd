/-! FALLS, TURNS -/
def zfl (T : zTn) (pt yr : Nat) : Nat → Bool := fun i => decide (¬ zln_ T (zps T pt yr i) ≤ t_be T)
section ZF
variable {T : zTn} {tr f : Nat → Int32} {sil : Int32} {pt yr : Nat}
theorem a_fall (hV : zV T) (hA : zA T tr) (hp : pt < 100) (hy : yr + 61 < 2 ^ 29) : ∃ a b, p_X4_yearsToFall (nI 60) (nI (t_d T)) (nI (t_ft T)) (nI pt) (nI (t_st T)) (nI (t_be T)) (nI yr) tr = some (zrs (fa_first (zfl T pt yr) 61) 61, a, b) := by
  have hk := fa_first_le (zfl T pt yr) 61
  generalize hq : fa_first (zfl T pt yr) 61 = q at hk
  have no : ∀ i, i < q → zln_ T (zps T pt yr i) ≤ t_be T := fun i hi => by
    have := of_decide_eq_false (fa_first_no (zfl T pt yr) 61 i (by rw [hq]; exact hi))
    exact Decidable.not_not.mp this
  have step : ∀ i, i < q → p_X4_yearsToFall_b2 (nI 60) (nI (t_ft T)) (nI (t_be T)) (nI (t_d T)) (nI (t_st T)) tr (nI i, nI (zps T pt yr i), nI (yr + i)) = some (.inr (nI (i + 1), nI (zps T pt yr (i + 1)), nI (yr + (i + 1)))) := by
    intro i hi
    have h1 := zps_lt hV (yr := yr) hp i
    unfold p_X4_yearsToFall_b2
    rw [if_neg (nI_nlt (a := 60) (by omega) (by decide))]
    show (p_X4_isFallen (nI (t_ft T)) (nI (zps T pt yr i)) (nI (t_be T))).bind _ = _
    rw [a_fallen hV h1, zbs, if_pos (no i hi), if_pos rfl]
    show (p_X4_passYear (nI (t_d T)) (nI (t_ft T)) (nI (zps T pt yr i)) (nI (t_st T)) (nI (t_be T)) (nI (yr + i)) tr).bind _ = _
    rw [a_year hV hA h1 (by omega), zbs, nI_1]
    rfl
  have e0 : ((0 : Int32), nI pt, nI yr) = (fun i => (nI i, nI (zps T pt yr i), nI (yr + i))) 0 := rfl
  refine ⟨nI (zps T pt yr q), nI (yr + q), ?_⟩
  have h1 := zps_lt hV (yr := yr) hp q
  by_cases c1 : q < 61
  · have yes : ¬ zln_ T (zps T pt yr q) ≤ t_be T := by
      have := fa_first_yes (zfl T pt yr) 61 (by rw [hq]; exact c1)
      rw [hq] at this
      exact of_decide_eq_true this
    have run := z_lp_run (body := p_X4_yearsToFall_b2 (nI 60) (nI (t_ft T)) (nI (t_be T)) (nI (t_d T)) (nI (t_st T)) tr) (r := .inl (nI q, nI (zps T pt yr q), nI (yr + q))) q (fun i => (nI i, nI (zps T pt yr i), nI (yr + i))) 1000 step ?_ (by omega)
    · unfold p_X4_yearsToFall zrs
      rw [e0, run, if_pos c1]
      rfl
    · show p_X4_yearsToFall_b2 _ _ _ _ _ _ (nI q, nI (zps T pt yr q), nI (yr + q)) = _
      unfold p_X4_yearsToFall_b2
      rw [if_neg (nI_nlt (a := 60) (by omega) (by decide))]
      show (p_X4_isFallen (nI (t_ft T)) (nI (zps T pt yr q)) (nI (t_be T))).bind _ = _
      rw [a_fallen hV h1, zbs, if_neg yes, if_neg (show ¬ (1 : Int32) = 0 by decide)]
  · have hqn : q = 61 := by omega
    have run := z_lp_run (body := p_X4_yearsToFall_b2 (nI 60) (nI (t_ft T)) (nI (t_be T)) (nI (t_d T)) (nI (t_st T)) tr) (r := .inr (nI (zps T pt yr q), nI (yr + q))) q (fun i => (nI i, nI (zps T pt yr i), nI (yr + i))) 1000 step ?_ (by omega)
    · unfold p_X4_yearsToFall zrs
      rw [e0, run, if_neg c1]
      rfl
    · show p_X4_yearsToFall_b2 _ _ _ _ _ _ (nI q, nI (zps T pt yr q), nI (yr + q)) = _
      unfold p_X4_yearsToFall_b2
      rw [if_pos (show nI 60 < nI q by rw [hqn]; decide)]
theorem b_fall (hV : zV T) (hM : zM T f 0 sil pt yr) (hp : pt < 100) (hy : yr + 61 < 1000000) : ∃ k, p_X6_falls sil f = some (zrs (fa_first (zfl T pt yr) 61) 61, zyr (zcp f 0 104) 104 (zps T pt yr k) (yr + k)) := by
  have hC := zM_cp (b := 104) hV.1 hM
  have hcp : p_X6_copies (0 : Int32) (104 : Int32) f = some (zcp f 0 104) := b_copies (a := 0) (b := 104) (by decide) (by decide) (by decide)
  generalize hgd : zcp f 0 104 = g at hC hcp ⊢
  have hk := fa_first_le (zfl T pt yr) 61
  generalize hq : fa_first (zfl T pt yr) 61 = q at hk
  have no : ∀ i, i < q → zln_ T (zps T pt yr i) ≤ t_be T := fun i hi => by
    have := of_decide_eq_false (fa_first_no (zfl T pt yr) 61 i (by rw [hq]; exact hi))
    exact Decidable.not_not.mp this
  have e0 : ((0 : Int32), g) = (fun i => (nI i, zyr g 104 (zps T pt yr i) (yr + i))) 0 := by
    show _ = (nI 0, zyr g 104 pt yr)
    rw [zyr_same hC]; rfl
  have step : ∀ i, i < q → p_X6_falls_b9 sil (nI i, zyr g 104 (zps T pt yr i) (yr + i)) = some (.inr (nI (i + 1), zyr g 104 (zps T pt yr (i + 1)) (yr + (i + 1)))) := by
    intro i hi
    have h1 := zps_lt hV (yr := yr) hp i
    have M1 := zyr_M hC (zps T pt yr i) (yr + i) hV.1
    unfold p_X6_falls_b9
    rw [if_neg (show ¬ (60 : Int32) < nI i from nI_nlt (a := 60) (by omega) (by decide))]
    show (p_X6_isFallenOn (nI 104) (zyr g 104 (zps T pt yr i) (yr + i))).bind _ = _
    rw [b_fallen hV M1 (by decide) h1, zbs, if_pos (no i hi), if_pos rfl]
    show (p_X6_yearOn (nI 104) sil (zyr g 104 (zps T pt yr i) (yr + i))).bind _ = _
    rw [b_yearI hV hC (by decide) hp (by omega), zbs, nI_1]
  refine ⟨q, ?_⟩
  have h1 := zps_lt hV (yr := yr) hp q
  have M1 := zyr_M hC (zps T pt yr q) (yr + q) hV.1
  by_cases c1 : q < 61
  · have yes : ¬ zln_ T (zps T pt yr q) ≤ t_be T := by
      have := fa_first_yes (zfl T pt yr) 61 (by rw [hq]; exact c1)
      rw [hq] at this
      exact of_decide_eq_true this
    have run := z_lp_run (body := p_X6_falls_b9 sil) (r := .inl (nI q, zyr g 104 (zps T pt yr q) (yr + q))) q (fun i => (nI i, zyr g 104 (zps T pt yr i) (yr + i))) 1000 step ?_ (by omega)
    · unfold p_X6_falls zrs
      rw [hcp, zbs, e0, run, if_pos c1]
      rfl
    · show p_X6_falls_b9 sil (nI q, zyr g 104 (zps T pt yr q) (yr + q)) = _
      unfold p_X6_falls_b9
      rw [if_neg (show ¬ (60 : Int32) < nI q from nI_nlt (a := 60) (by omega) (by decide))]
      show (p_X6_isFallenOn (nI 104) (zyr g 104 (zps T pt yr q) (yr + q))).bind _ = _
      rw [b_fallen hV M1 (by decide) h1, zbs, if_neg yes, if_neg (show ¬ (1 : Int32) = 0 by decide)]
  · have hqn : q = 61 := by omega
    have run := z_lp_run (body := p_X6_falls_b9 sil) (r := .inr (zyr g 104 (zps T pt yr q) (yr + q))) q (fun i => (nI i, zyr g 104 (zps T pt yr i) (yr + i))) 1000 step ?_ (by omega)
    · unfold p_X6_falls zrs
      rw [hcp, zbs, e0, run, if_neg c1]
      rfl
    · show p_X6_falls_b9 sil (nI q, zyr g 104 (zps T pt yr q) (yr + q)) = _
      unfold p_X6_falls_b9
      rw [if_pos (show (60 : Int32) < nI q by rw [hqn]; decide)]
end ZF
