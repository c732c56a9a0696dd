/-! LURE -/
theorem zgL_1 : z_get zgL 4 (1 : Int32) = some (nI 1) := by decide
theorem zgM_1 : z_get zgM 4 (1 : Int32) = some (nI 20) := by decide
theorem zgL_0 : z_get zgL 4 (0 : Int32) = some (nI 0) := by decide
theorem zgM_0 : z_get zgM 4 (0 : Int32) = some (nI 3) := by decide
section ZL
variable {T : zTn} {tr f : Nat → Int32} {pt yr : Nat}
def zcm (T : zTn) (pt yr c : Nat) : Nat := fa_first (fun i => decide (zps T pt yr i = c)) 61
def zlure (T : zTn) (pt yr i c v : Nat) : Bool := decide (zcm (zT1 T i (v + 1)) pt yr c < 61)
def zrs1 (k N : Nat) : Int32 := if k < N then nI (k + 1) else -4
theorem a_lure (hV : zV T) (hA : zA T tr) (hp : pt < 100) (hy : yr ≤ 999) {i c : Nat} (hi : i < t_d T) (hc : c < 100) (x1 x2 x3 x4 x5 x6 : Int32) (x7 : Nat → Int32) : ∃ r, z_lp (p_X5_lure_b26 (nI i) (nI (t_d T)) (nI (t_ft T)) (nI pt) (nI (t_st T)) (nI (t_be T)) (nI yr) tr (nI c)) 1000 (nI 1, x1, x2, x3, x4, x5, x6, x7) = some r ∧ ∃ j, (Sum.elim (fun (x : Int32 × Int32 × Int32 × Int32 × Int32 × Int32 × Int32 × (Nat → Int32)) => some x) (fun (v10 : Int32 × Int32 × Int32 × Int32 × Int32 × Int32 × (Nat → Int32)) => some ((-4 : Int32), v10.1, v10.2.1, v10.2.2.1, v10.2.2.2.1, v10.2.2.2.2.1, v10.2.2.2.2.2.1, v10.2.2.2.2.2.2))) r = some (zrs1 (fa_first (zlure T pt yr i c) 20) 20, j) := by
  have hd := hV.1
  have one : ∀ (v : Nat) (x : Int32 × Int32 × Int32 × Int32 × Int32 × Int32 × Int32 × (Nat → Int32)), v < 20 → x.1 = nI (v + 1) → ∃ j : Int32 × Int32 × Int32 × Int32 × Int32 × Int32 × (Nat → Int32), p_X5_lure_b26 (nI i) (nI (t_d T)) (nI (t_ft T)) (nI pt) (nI (t_st T)) (nI (t_be T)) (nI yr) tr (nI c) x = if zlure T pt yr i c v = true then some (.inl (.inl (nI (v + 1), j))) else some (.inr (nI (v + 1 + 1), j)) := by
    rintro v ⟨u, y1, y2, y3, y4, y5, y6, y7⟩ hv hx
    have hx' : u = nI (v + 1) := hx
    subst hx'
    obtain ⟨a, b, h⟩ := a_to (T := zT1 T i (v + 1)) (n := 60) (zV_t1 hV (by omega)) (zA_t1 (zA_ct (b := y7) hd hA)) hp (yr := yr) (by omega) (by decide) hc
    refine ⟨(nI (t_d T), nI (t_ft T), a, nI (t_st T), nI (t_be T), b, upd (zct tr y7) (4 * i + 1) (nI (v + 1))), ?_⟩
    unfold p_X5_lure_b26
    rw [zgM_1, zbs, if_neg (show ¬ nI 20 < nI (v + 1) from nI_nlt (by omega) (by omega))]
    show (p_X5_suppose (nI i) (nI 1) (nI (v + 1)) (nI (t_d T)) (nI (t_ft T)) (nI pt) (nI (t_st T)) (nI (t_be T)) (nI yr) tr y7).bind _ = _
    rw [a_sup (by omega) (by decide), zbs]
    show (p_X4_yearsTo (nI c) (nI 60) (nI (t_d T)) (nI (t_ft T)) (nI pt) (nI (t_st T)) (nI (t_be T)) (nI yr) (upd (zct tr y7) (4 * i + 1) (nI (v + 1)))).bind _ = _
    have h' : p_X4_yearsTo (nI c) (nI 60) (nI (t_d T)) (nI (t_ft T)) (nI pt) (nI (t_st T)) (nI (t_be T)) (nI yr) (upd (zct tr y7) (4 * i + 1) (nI (v + 1))) = some (zrs (zcm (zT1 T i (v + 1)) pt yr c) 61, a, b) := h
    have hk : zlure T pt yr i c v = true ↔ zcm (zT1 T i (v + 1)) pt yr c < 61 := ⟨of_decide_eq_true, decide_eq_true⟩
    generalize zcm (zT1 T i (v + 1)) pt yr c = k at h' hk
    rw [h', zbs]
    dsimp only
    rw [nI_1]
    by_cases q : k < 61
    · rw [if_neg (show ¬ zrs k 61 = (-4 : Int32) from fun z => (zrs_m4 (by decide)).mp z q), if_pos (hk.mpr q)]
    · rw [if_pos (show zrs k 61 = (-4 : Int32) from (zrs_m4 (by decide)).mpr q), if_neg (fun z => q (hk.mp z))]
  have key := z_lp_first (body := p_X5_lure_b26 (nI i) (nI (t_d T)) (nI (t_ft T)) (nI pt) (nI (t_st T)) (nI (t_be T)) (nI yr) tr (nI c)) (zlure T pt yr i c) 20 (fun v x => x.1 = nI (v + 1)) (fun v r => r.1 = nI (v + 1)) (fun _ => True) 1000 (nI 1, x1, x2, x3, x4, x5, x6, x7)
    (fun v x hi hx hP => by
      obtain ⟨j, h⟩ := one v x hi hx
      rw [if_neg (by rw [hP]; decide)] at h
      exact ⟨_, h, rfl⟩)
    (fun v x hi hx hP => by
      obtain ⟨j, h⟩ := one v x hi hx
      rw [if_pos hP] at h
      exact ⟨_, h, rfl⟩)
    (fun x hx => by
      refine ⟨(x.2.1, x.2.2.1, x.2.2.2.1, x.2.2.2.2.1, x.2.2.2.2.2.1, x.2.2.2.2.2.2.1, x.2.2.2.2.2.2.2), ?_, trivial⟩
      unfold p_X5_lure_b26
      rw [zgM_1, zbs, if_pos (by rw [hx]; decide)])
    rfl (by decide)
  rcases key with ⟨c, r, h1, h2⟩ | ⟨c, r, h1, -⟩
  · exact ⟨_, h1, r.2, by rw [zel, zrs1, if_pos c, ← h2]⟩
  · exact ⟨_, h1, _, by rw [zer, zrs1, if_neg c]⟩
theorem b_lure (hV : zV T) (hM : zM T f 0 (-4) pt yr) (hp : pt < 100) (hy : yr ≤ 999) {i c : Nat} (hi : i < t_d T) (hc : c < 100) : ∃ r, z_lp (p_X6_lure_b19 (nI i) (nI c) (-4)) 1000 ((1 : Int32), f) = some r ∧ ∃ j, (Sum.elim (fun (x : Int32 × (Nat → Int32)) => some x) (fun (v9 : (Nat → Int32)) => some ((-4 : Int32), v9))) r = some (zrs1 (fa_first (zlure T pt yr i c) 20) 20, j) ∧ zLo f j := by
  have hd := hV.1
  have one : ∀ (v : Nat) (x : Int32 × (Nat → Int32)), v < 20 → x.1 = nI (v + 1) ∧ zLo f x.2 → ∃ g : Nat → Int32, zLo f g ∧ p_X6_lure_b19 (nI i) (nI c) (-4) x = if zlure T pt yr i c v = true then some (.inl (.inl (nI (v + 1), g))) else some (.inr (nI (v + 1 + 1), g)) := by
    rintro v ⟨u, g⟩ hv ⟨hx, hlo⟩
    have hx' : u = nI (v + 1) := hx
    subst hx'
    have hlo' : zLo f g := hlo
    have hM2 : zM (zT1 T i (v + 1)) (upd (zcp g 0 130) (130 + 5 + i) (nI (v + 1))) 130 (-4) pt yr := zM_t1 (zM_cp hd (zLo_M hd hlo' hM)) hd hi
    have hlo2 : zLo f (upd (zcp g 0 130) (130 + 5 + i) (nI (v + 1))) := zLo_u (zLo_c hlo' (by decide)) (by omega)
    obtain ⟨k, h⟩ := b_comes (pg := 130) (zV_t1 hV (by omega)) (Or.inr rfl) hM2 hp (by omega) hc
    refine ⟨zyr (zcp (upd (zcp g 0 130) (130 + 5 + i) (nI (v + 1))) 130 104) 104 (zps (zT1 T i (v + 1)) pt yr k) (yr + k), zLo_y (zLo_c hlo2 (by decide)) (by decide), ?_⟩
    unfold p_X6_lure_b19
    rw [if_neg (show ¬ (20 : Int32) < nI (v + 1) from nI_nlt (a := 20) (by omega) (by decide)), b_cp130, zbs]
    show (z_set (zcp g 0 130) 156 ((135 : Int32) + nI i) (nI (v + 1))).bind _ = _
    rw [z_set_e (130 + 5 + i) (by rw [show (135 : Int32) = nI 135 from rfl, nI_add]) (by omega) (by decide), zbs]
    have h' : p_X6_comesOn (130 : Int32) (nI c) (-4) (upd (zcp g 0 130) (130 + 5 + i) (nI (v + 1))) = some (zrs (zcm (zT1 T i (v + 1)) pt yr c) 61, zyr (zcp (upd (zcp g 0 130) (130 + 5 + i) (nI (v + 1))) 130 104) 104 (zps (zT1 T i (v + 1)) pt yr k) (yr + k)) := h
    have hk : zlure T pt yr i c v = true ↔ zcm (zT1 T i (v + 1)) pt yr c < 61 := ⟨of_decide_eq_true, decide_eq_true⟩
    generalize zcm (zT1 T i (v + 1)) pt yr c = k at h' hk
    rw [h', zbs]
    dsimp only
    rw [nI_1]
    by_cases q : k < 61
    · rw [if_neg (show ¬ zrs k 61 = (-4 : Int32) from fun z => (zrs_m4 (by decide)).mp z q), if_pos (hk.mpr q)]
    · rw [if_pos (show zrs k 61 = (-4 : Int32) from (zrs_m4 (by decide)).mpr q), if_neg (fun z => q (hk.mp z))]
  have key := z_lp_first (body := p_X6_lure_b19 (nI i) (nI c) (-4)) (zlure T pt yr i c) 20 (fun v x => x.1 = nI (v + 1) ∧ zLo f x.2) (fun v r => r.1 = nI (v + 1) ∧ zLo f r.2) (fun r => zLo f r) 1000 ((1 : Int32), f)
    (fun v x hi hx hP => by
      obtain ⟨o, h0, h⟩ := one v x hi hx
      rw [if_neg (by rw [hP]; decide)] at h
      exact ⟨_, h, rfl, h0⟩)
    (fun v x hi hx hP => by
      obtain ⟨o, h0, h⟩ := one v x hi hx
      rw [if_pos hP] at h
      exact ⟨_, h, rfl, h0⟩)
    (fun x hx => by
      refine ⟨x.2, ?_, hx.2⟩
      unfold p_X6_lure_b19
      rw [if_pos (by rw [hx.1]; decide)])
    ⟨rfl, zLo_r f⟩ (by decide)
  rcases key with ⟨c, r, h1, h2, h3⟩ | ⟨c, r, h1, h3⟩
  · exact ⟨_, h1, r.2, by rw [zel, zrs1, if_pos c, ← h2], h3⟩
  · exact ⟨_, h1, _, by rw [zer, zrs1, if_neg c], h3⟩
end ZL
