/-! SITE -/
theorem zbf_zero {h : Nat → Nat} {lab : Nat → Int32} {s : Int32 × Nat} {q : Nat} (h0 : (zbf h lab s q).2 = 0) : ∀ k, zbf h lab s (q + k) = zbf h lab s q
  | 0 => rfl
  | k + 1 => by
    have ih := zbf_zero h0 k
    show (if (zbf h lab s (q + k)).2 ≤ h (q + k) then zbf h lab s (q + k) else (lab (q + k), h (q + k))) = _
    rw [ih, if_pos (by omega)]
theorem zbf_61 {h : Nat → Nat} {lab : Nat → Int32} : ∀ n, zbf h lab (-4, 61) n = (-4, 61) ∨ (zbf h lab (-4, 61) n).2 < 61
  | 0 => Or.inl rfl
  | n + 1 => by
    have ih := zbf_61 (h := h) (lab := lab) n
    rw [zbf]
    rcases ih with e | e
    · rw [e]
      by_cases c : 61 ≤ h n
      · left; rw [if_pos c]
      · right; rw [if_neg c]; show h n < 61; omega
    · right
      split
      · exact e
      · rename_i c; show h n < 61; omega
def zsite (T : zTn) (pt yr k p c v : Nat) : Nat := zcm (zTa T k p v) pt yr c
def zsb (T : zTn) (pt yr k p c n : Nat) : Int32 × Nat := zbf (zsite T pt yr k p c) nI (-4, 61) n
theorem zcm_le (T : zTn) (pt yr c : Nat) : zcm T pt yr c ≤ 61 := fa_first_le _ _
def zsu (m : Nat) : Nat := if m = 61 then 100 else m
section ZSI
variable {T : zTn} {tr f : Nat → Int32} {pt yr : Nat}
theorem zsb_le (n : Nat) {k p c : Nat} : (zsb T pt yr k p c n).2 ≤ 61 := by
  rcases zbf_61 (h := zsite T pt yr k p c) (lab := nI) n with e | e
  · unfold zsb; rw [e]; exact Nat.le_refl _
  · unfold zsb; omega
theorem a_site (hV : zV T) (hA : zA T tr) (hp : pt < 100) (hy : yr ≤ 999) {k p c : Nat} (hd : t_d T < 5) (hk : k ≤ 3) (hpl : p ≤ 20) (hc : c < 100) (x1 x2 x3 x4 x5 x6 : Int32) (x7 : Nat → Int32) : ∃ r, z_lp (p_X5_site_b57 (nI (t_d T)) (nI (t_ft T)) (nI pt) (nI (t_st T)) (nI (t_be T)) (nI yr) tr (nI k) (nI p) (nI c)) 1000 ((-4 : Int32), (61 : Int32), (0 : Int32), x1, x2, x3, x4, x5, x6, x7) = some r ∧ r.1 = (zsb T pt yr k p c 100).1 ∧ r.2.1 = nI (zsb T pt yr k p c 100).2 := by
  have hle := fa_first_le (fun n => decide ((zsb T pt yr k p c n).2 = 0)) 100
  have hno := fa_first_no (fun n => decide ((zsb T pt yr k p c n).2 = 0)) 100
  have hyes := fa_first_yes (fun n => decide ((zsb T pt yr k p c n).2 = 0)) 100
  generalize fa_first (fun n => decide ((zsb T pt yr k p c n).2 = 0)) 100 = q at hle hno hyes
  have hlast : zsb T pt yr k p c 100 = zsb T pt yr k p c q := by
    by_cases e : q < 100
    · have h0 : (zsb T pt yr k p c q).2 = 0 := of_decide_eq_true (hyes e)
      have := zbf_zero (h := zsite T pt yr k p c) (lab := nI) (s := ((-4 : Int32), 61)) (q := q) h0 (100 - q)
      rw [show q + (100 - q) = 100 by omega] at this
      exact this
    · rw [show q = 100 by omega]
  rw [hlast]
  refine z_lp_inv (body := (p_X5_site_b57 (nI (t_d T)) (nI (t_ft T)) (nI pt) (nI (t_st T)) (nI (t_be T)) (nI yr) tr (nI k) (nI p) (nI c))) (R := fun r => r.1 = (zsb T pt yr k p c q).1 ∧ r.2.1 = nI (zsb T pt yr k p c q).2) q (fun i x => x.1 = (zsb T pt yr k p c i).1 ∧ x.2.1 = nI (zsb T pt yr k p c i).2 ∧ x.2.2.1 = nI i) 1000 _ ?_ ?_ ⟨rfl, rfl, rfl⟩ (by omega)
  · rintro v ⟨u, s, w, y1, y2, y3, y4, y5, y6, y7⟩ hv ⟨e1, e2, e3⟩
    have e1' : u = _ := e1
    have e2' : s = _ := e2
    have e3' : w = nI v := e3
    subst e1' e2' e3'
    have hm0 : ¬ (zsb T pt yr k p c v).2 = 0 := of_decide_eq_false (hno v hv)
    have hm61 := zsb_le (T := T) (pt := pt) (yr := yr) (k := k) (p := p) (c := c) v
    have hV' := zV_a (k := k) (p := p) (c := v) hV hd hk hpl (by omega)
    have hA' := zA_a (k := k) (p := p) (c := v) (zA_ct (b := y7) hV.1 hA)
    obtain ⟨a, b, h⟩ := a_to (T := zTa T k p v) (n := (zsb T pt yr k p c v).2 - 1) hV' hA' hp (yr := yr) (by omega) (by omega) hc
    rw [show (zsb T pt yr k p c v).2 - 1 + 1 = (zsb T pt yr k p c v).2 by omega, fa_first_min _ hm61] at h
    have hq : fa_first (fun i => decide (zps (zTa T k p v) pt yr i = c)) 61 = zsite T pt yr k p c v := rfl
    rw [hq] at h
    have hz : zsb T pt yr k p c (v + 1) = if (zsb T pt yr k p c v).2 ≤ zsite T pt yr k p c v then zsb T pt yr k p c v else (nI v, zsite T pt yr k p c v) := rfl
    rw [hz]
    have hk61 : zsite T pt yr k p c v ≤ 61 := zcm_le _ _ _ _
    generalize zsb T pt yr k p c v = B at hm0 hm61 h
    generalize zsite T pt yr k p c v = K at h hk61
    have h' : p_X4_yearsTo (nI c) (nI (B.2 - 1)) (nI (t_d T + 1)) (nI (t_ft T)) (nI pt) (nI (t_st T)) (nI (t_be T)) (nI yr) (zar (zct tr y7) (t_d T) (nI k) (nI p) (nI v)) = some (zrs (if K < B.2 then K else B.2) B.2, a, b) := h
    unfold p_X5_site_b57 p_X4_copyFrom
    try dsimp only
    rw [if_neg (show ¬ (100 : Int32) ≤ nI v from nI_ge (b := 100) (by omega) (by decide)), if_neg (show ¬ nI B.2 ≤ 0 from nI_nle (by omega) (by omega)), zbs]
    try dsimp only
    rw [a_add hd, zbs, zi1, pk_sub (show 1 ≤ B.2 by omega)]
    show ∃ y, (p_X4_yearsTo (nI c) (nI (B.2 - 1)) (nI (t_d T + 1)) (nI (t_ft T)) (nI pt) (nI (t_st T)) (nI (t_be T)) (nI yr) (zar (zct tr y7) (t_d T) (nI k) (nI p) (nI v))).bind _ = some (Sum.inr y) ∧ _
    rw [h', zbs]
    try dsimp only
    rw [nI_add]
    by_cases q : B.2 ≤ K
    · rw [if_pos (show zrs (if K < B.2 then K else B.2) B.2 = (-4 : Int32) by rw [if_neg (by omega), zrs_ge (by omega)]), if_pos q]
      exact ⟨_, rfl, rfl, rfl, rfl⟩
    · rw [if_neg (show ¬ zrs (if K < B.2 then K else B.2) B.2 = (-4 : Int32) by rw [if_pos (by omega), zrs_lt (by omega)]; exact nI_m4 (by omega)), if_neg q, if_pos (show K < B.2 by omega), zrs_lt (by omega)]
      exact ⟨_, rfl, rfl, rfl, rfl⟩
  · rintro ⟨u, s, w, y1, y2, y3, y4, y5, y6, y7⟩ ⟨e1, e2, e3⟩
    have e1' : u = _ := e1
    have e2' : s = _ := e2
    have e3' : w = nI q := e3
    subst e1' e2' e3'
    unfold p_X5_site_b57
    try dsimp only
    by_cases e : q < 100
    · have h0 : (zsb T pt yr k p c q).2 = 0 := of_decide_eq_true (hyes e)
      rw [if_neg (show ¬ (100 : Int32) ≤ nI q from nI_ge (b := 100) e (by decide)), h0, if_pos (show nI 0 ≤ (0 : Int32) by decide)]
      exact ⟨_, rfl, rfl, rfl⟩
    · rw [if_pos (show (100 : Int32) ≤ nI q by rw [show q = 100 by omega]; decide)]
      exact ⟨_, rfl, rfl, rfl⟩
theorem b_site (hV : zV T) (hM : zM T f 0 (-4) pt yr) (hp : pt < 100) (hy : yr ≤ 999) {k p c : Nat} (hd : t_d T < 5) (hk : k ≤ 3) (hpl : p ≤ 20) (hc : c < 100) : ∃ r, z_lp (p_X6_site_b47 (nI k) (nI p) (nI c) (-4)) 1000 ((100 : Int32), (-4 : Int32), (0 : Int32), f) = some r ∧ r.2.1 = (zsb T pt yr k p c 100).1 ∧ r.1 = nI (zsu (zsb T pt yr k p c 100).2) ∧ zLo f r.2.2 := by
  refine z_lp_inv (body := (p_X6_site_b47 (nI k) (nI p) (nI c) (-4))) (R := fun r => r.2.1 = (zsb T pt yr k p c 100).1 ∧ r.1 = nI (zsu (zsb T pt yr k p c 100).2) ∧ zLo f r.2.2) 100 (fun i x => x.2.1 = (zsb T pt yr k p c i).1 ∧ x.1 = nI (zsu (zsb T pt yr k p c i).2) ∧ x.2.2.1 = nI i ∧ zLo f x.2.2.2) 1000 _ ?_ ?_ ⟨rfl, rfl, rfl, zLo_r f⟩ (by decide)
  · rintro v ⟨s, u, w, g⟩ hv ⟨e1, e2, e3, e5⟩
    have e1' : u = _ := e1
    have e2' : s = _ := e2
    have e3' : w = nI v := e3
    subst e1' e2' e3'
    have e5' : zLo f g := e5
    have hm61 := zsb_le (T := T) (pt := pt) (yr := yr) (k := k) (p := p) (c := c) v
    have hV' := zV_a (k := k) (p := p) (c := v) hV hd hk hpl (by omega)
    have hMc := zM_cp (b := 130) hV.1 (zLo_M hV.1 e5' hM)
    have hM2 := zM_a (k := k) (p := p) (c := v) hMc hd
    have hput : p_X6_putsOn (130 : Int32) (nI k) (nI p) (nI v) (zcp g 0 130) = some (zmr (zcp g 0 130) 130 (t_d T) (nI k) (nI p) (nI v)) := b_putsOn (pg := 130) hd (by decide) hMc.1
    have hlo2 : zLo f (zmr (zcp g 0 130) 130 (t_d T) (nI k) (nI p) (nI v)) := zLo_u (zLo_u (zLo_u (zLo_u (zLo_u (zLo_c e5' (by decide)) (by omega)) (by omega)) (by omega)) (by omega)) (by omega)
    generalize zmr (zcp g 0 130) 130 (t_d T) (nI k) (nI p) (nI v) = G at hM2 hput hlo2
    obtain ⟨kk, h⟩ := b_comes (pg := 130) hV' (Or.inr rfl) hM2 hp (by omega) hc
    have hl3 : zLo f (zyr (zcp G 130 104) 104 (zps (zTa T k p v) pt yr kk) (yr + kk)) := zLo_y (zLo_c hlo2 (by decide)) (by decide)
    generalize zyr (zcp G 130 104) 104 (zps (zTa T k p v) pt yr kk) (yr + kk) = G2 at h hl3
    have hq : fa_first (fun i => decide (zps (zTa T k p v) pt yr i = c)) 61 = zsite T pt yr k p c v := rfl
    rw [hq] at h
    have hz : zsb T pt yr k p c (v + 1) = if (zsb T pt yr k p c v).2 ≤ zsite T pt yr k p c v then zsb T pt yr k p c v else (nI v, zsite T pt yr k p c v) := rfl
    rw [hz]
    have hk61 : zsite T pt yr k p c v ≤ 61 := zcm_le _ _ _ _
    generalize zsb T pt yr k p c v = B at hm61
    generalize zsite T pt yr k p c v = K at h hk61
    have h' : p_X6_comesOn (130 : Int32) (nI c) (-4) G = some (zrs K 61, G2) := h
    unfold p_X6_site_b47
    try dsimp only
    rw [if_neg (show ¬ (100 : Int32) ≤ nI v from nI_ge (b := 100) hv (by decide)), b_cp130, zbs, hput, zbs, h', zbs]
    try dsimp only
    rw [nI_1]
    by_cases c1 : K < 61
    · have e : zrs K 61 = nI K := zrs_lt c1
      rw [e, if_neg (show ¬ nI K = (-4 : Int32) from nI_m4 (by omega)), if_neg (show ¬ nI K = (-4 : Int32) from nI_m4 (by omega))]
      by_cases q : B.2 ≤ K
      · have hs : zsu B.2 = B.2 := if_neg (by omega)
        rw [hs, if_pos (nI_le q (by omega)), if_pos (nI_le q (by omega)), if_pos q]
        exact ⟨_, rfl, rfl, by rw [hs], rfl, hl3⟩
      · have hs : ¬ zsu B.2 ≤ K := by unfold zsu; split <;> omega
        have hs2 : zsu B.2 ≤ 100 := by unfold zsu; split <;> omega
        rw [if_neg (nI_nle' hs (by omega)), if_neg (nI_nle' hs (by omega)), if_neg q]
        refine ⟨_, rfl, rfl, ?_, rfl, hl3⟩
        show nI K = nI (zsu K)
        rw [show zsu K = K from if_neg (by omega)]
    · have e : zrs K 61 = -4 := zrs_ge c1
      rw [e, if_pos rfl, if_pos rfl, if_pos (show B.2 ≤ K by omega)]
      exact ⟨_, rfl, rfl, rfl, rfl, hl3⟩
  · rintro ⟨s, u, w, g⟩ ⟨e1, e2, e3, e5⟩
    have e3' : w = nI 100 := e3
    subst e3'
    unfold p_X6_site_b47
    try dsimp only
    rw [if_pos (show (100 : Int32) ≤ nI 100 by decide)]
    exact ⟨_, rfl, e1, e2, e5⟩
end ZSI
