/-! KINDS, PULLS, SPOTS -/
section ZK
variable {T : zTn} {tr f : Nat → Int32} {pt yr n : Nat} {sy sc : Nat → Nat} {ys cs ms : Nat → Int32}
def zP0 (T : zTn) (pt yr n : Nat) (sy sc : Nat → Nat) (i v : Nat) : Bool := zFits (zT0 T i v) pt yr n sy sc
theorem a_bits0 (hV : zV T) (hA : zA T tr) (hp : pt < 100) (hy : yr ≤ 999) (hS : zSn n sy sc ys cs ms) {i : Nat} (hi : i < t_d T) (x1 x2 x3 x4 x5 x6 : Int32) (x7 : Nat → Int32) : ∃ j, p_X5_fittingBits (nI i) (0 : Int32) (nI (t_d T)) (nI (t_ft T)) (nI pt) (nI (t_st T)) (nI (t_be T)) (nI yr) tr x1 x2 x3 x4 x5 x6 x7 (nI n) ys cs = some (zbt (zP0 T pt yr n sy sc i) 0 4, j) := by
  have hd := hV.1
  obtain ⟨r, h1, h2⟩ := z_lp_inv (body := p_X5_fittingBits_b9 (0 : Int32) (nI i) (nI (t_d T)) (nI (t_ft T)) (nI pt) (nI (t_st T)) (nI (t_be T)) (nI yr) tr (nI n) ys cs) (R := fun r => r.1 = zbt (zP0 T pt yr n sy sc i) 0 4) 4 (fun k x => x.1 = zbt (zP0 T pt yr n sy sc i) 0 k ∧ x.2.1 = nI (0 + k)) 1000 ((0 : Int32), nI 0, x1, x2, x3, x4, x5, x6, x7)
    (by
      rintro k ⟨u, v, y1, y2, y3, y4, y5, y6, y7⟩ hk ⟨e1, e2⟩
      have e1' : u = _ := e1
      have e2' : v = nI (0 + k) := e2
      subst e1' e2'
      obtain ⟨a, b, h⟩ := a_fits (T := zT0 T i (0 + k)) (zV_t0 hV (by omega)) (zA_t0 (zA_ct (b := y7) hd hA)) hp hy hS
      have hq : zFits (zT0 T i (0 + k)) pt yr n sy sc = zP0 T pt yr n sy sc i (0 + k) := rfl
      rw [hq] at h
      have hz : zbt (zP0 T pt yr n sy sc i) 0 (k + 1) = if zP0 T pt yr n sy sc i (0 + k) = true then zbt (zP0 T pt yr n sy sc i) 0 k ||| ((1 : Int32) <<< (nI (0 + k) &&& 31)) else zbt (zP0 T pt yr n sy sc i) 0 k := rfl
      rw [hz]
      generalize zbt (zP0 T pt yr n sy sc i) 0 k = B
      generalize zP0 T pt yr n sy sc i (0 + k) = c at h
      have h' : p_X2_fits (nI n) ys cs (nI (t_d T)) (nI (t_ft T)) (nI pt) (nI (t_st T)) (nI (t_be T)) (nI yr) (upd (zct tr y7) (4 * i + 0) (nI (0 + k))) = some (zbI c, a, b) := h
      have hs : p_X5_suppose (nI i) (0 : Int32) (nI (0 + k)) (nI (t_d T)) (nI (t_ft T)) (nI pt) (nI (t_st T)) (nI (t_be T)) (nI yr) tr y7 = _ := a_sup (w := 0) (by omega) (by decide)
      unfold p_X5_fittingBits_b9
      try dsimp only
      rw [zgM_0, zbs, if_neg (show ¬ nI 3 < nI (0 + k) from nI_nlt (by omega) (by omega)), hs, zbs]
      try dsimp only
      rw [h', zbs, nI_1]
      try dsimp only
      cases c
      · rw [zbI_f, if_pos rfl, if_neg (by decide)]
        exact ⟨_, rfl, rfl, rfl⟩
      · rw [zbI_t, if_neg z1n0, if_pos rfl]
        exact ⟨_, rfl, rfl, rfl⟩)
    (by
      rintro ⟨u, v, y1, y2, y3, y4, y5, y6, y7⟩ ⟨e1, e2⟩
      have e2' : v = nI (0 + 4) := e2
      subst e2'
      refine ⟨(u, y1, y2, y3, y4, y5, y6, y7), ?_, e1⟩
      unfold p_X5_fittingBits_b9
      try dsimp only
      rw [zgM_0, zbs, if_pos (show nI 3 < nI (0 + 4) by decide)])
    ⟨rfl, rfl⟩ (by decide)
  unfold p_X5_fittingBits
  rw [zgL_0, zbs, h1, zbs, h2]
  exact ⟨_, rfl⟩
theorem b_bits0 (hV : zV T) (hM : zM T f 0 (-4) pt yr) (hp : pt < 100) (hy : yr ≤ 999) (hS : zSn n sy sc ys cs ms) {i : Nat} (hi : i < t_d T) (pb : Nat → Int32) : ∃ r, z_lp (p_X6_kinds_b22 (nI i) (-4) (nI n) ms) 1000 ((0 : Int32), (0 : Int32), f, pb) = some r ∧ r.1 = zbt (zP0 T pt yr n sy sc i) 0 4 ∧ zLx (0 + i) f r.2.1 := by
  have hd := hV.1
  refine z_lp_inv (body := (p_X6_kinds_b22 (nI i) (-4) (nI n) ms)) (R := fun r => r.1 = zbt (zP0 T pt yr n sy sc i) 0 4 ∧ zLx (0 + i) f r.2.1) 4 (fun k x => x.1 = zbt (zP0 T pt yr n sy sc i) 0 k ∧ x.2.1 = nI (0 + k) ∧ zLx (0 + i) f x.2.2.1) 1000 _ ?_ ?_ ⟨rfl, rfl, zLx_r _ f⟩ (by decide)
  · rintro k ⟨u, v, g, pb⟩ hk ⟨e1, e2, e3⟩
    have e1' : u = _ := e1
    have e2' : v = nI (0 + k) := e2
    subst e1' e2'
    have hx : zLx (0 + i) f g := e3
    have hM2 : zM (zT0 T i (0 + k)) (upd g (0 + i) (nI (0 + k))) 0 (-4) pt yr := zLx_M hd hx (zM_t0 hM hd hi)
    obtain ⟨g', pb', h1, h2, h3, h4⟩ := b_seen (T := zT0 T i (0 + k)) (zV_t0 hV (by omega)) hM2 hp hy hS (row := 0) (by omega) pb
    have hq : zFits (zT0 T i (0 + k)) pt yr n sy sc = zP0 T pt yr n sy sc i (0 + k) := rfl
    rw [hq] at h1
    have hz : zbt (zP0 T pt yr n sy sc i) 0 (k + 1) = if zP0 T pt yr n sy sc i (0 + k) = true then zbt (zP0 T pt yr n sy sc i) 0 k ||| ((1 : Int32) <<< (nI (0 + k) &&& 31)) else zbt (zP0 T pt yr n sy sc i) 0 k := rfl
    rw [hz]
    generalize zbt (zP0 T pt yr n sy sc i) 0 k = B
    generalize zP0 T pt yr n sy sc i (0 + k) = c at h1
    have h1' : p_X6_isAsSeen ((0 : Int32)) (-4) (nI n) (upd g (0 + i) (nI (0 + k))) ms pb = some (zbI c, g', pb') := h1
    refine ⟨(if c = true then B ||| ((1 : Int32) <<< (nI (0 + k) &&& 31)) else B, nI (0 + (k + 1)), g', pb'), ?_, rfl, rfl, zLx_u hx h2⟩
    · unfold p_X6_kinds_b22
      try dsimp only
      rw [if_neg (show ¬ (4 : Int32) ≤ nI (0 + k) from nI_ge (b := 4) (by omega) (by decide)), z_set_e (0 + i) (congrArg nI (by omega)) (by omega) (by decide), zbs, h1', zbs, nI_1]
      try dsimp only
      cases c
      · rw [zbI_f, if_pos rfl, zor0]; rfl
      · rw [zbI_t, if_neg z1n0]; rfl
  · rintro ⟨u, v, g, pb⟩ ⟨e1, e2, e3⟩
    have e2' : v = nI (0 + 4) := e2
    subst e2'
    refine ⟨(u, g, pb), ?_, e1, e3⟩
    unfold p_X6_kinds_b22
    try dsimp only
    rw [if_pos (show (4 : Int32) ≤ nI (0 + 4) by decide)]
def zP1 (T : zTn) (pt yr n : Nat) (sy sc : Nat → Nat) (i v : Nat) : Bool := zFits (zT1 T i v) pt yr n sy sc
theorem a_bits1 (hV : zV T) (hA : zA T tr) (hp : pt < 100) (hy : yr ≤ 999) (hS : zSn n sy sc ys cs ms) {i : Nat} (hi : i < t_d T) (x1 x2 x3 x4 x5 x6 : Int32) (x7 : Nat → Int32) : ∃ j, p_X5_fittingBits (nI i) (1 : Int32) (nI (t_d T)) (nI (t_ft T)) (nI pt) (nI (t_st T)) (nI (t_be T)) (nI yr) tr x1 x2 x3 x4 x5 x6 x7 (nI n) ys cs = some (zbt (zP1 T pt yr n sy sc i) 1 20, j) := by
  have hd := hV.1
  obtain ⟨r, h1, h2⟩ := z_lp_inv (body := p_X5_fittingBits_b9 (1 : Int32) (nI i) (nI (t_d T)) (nI (t_ft T)) (nI pt) (nI (t_st T)) (nI (t_be T)) (nI yr) tr (nI n) ys cs) (R := fun r => r.1 = zbt (zP1 T pt yr n sy sc i) 1 20) 20 (fun k x => x.1 = zbt (zP1 T pt yr n sy sc i) 1 k ∧ x.2.1 = nI (1 + k)) 1000 ((0 : Int32), nI 1, x1, x2, x3, x4, x5, x6, x7)
    (by
      rintro k ⟨u, v, y1, y2, y3, y4, y5, y6, y7⟩ hk ⟨e1, e2⟩
      have e1' : u = _ := e1
      have e2' : v = nI (1 + k) := e2
      subst e1' e2'
      obtain ⟨a, b, h⟩ := a_fits (T := zT1 T i (1 + k)) (zV_t1 hV (by omega)) (zA_t1 (zA_ct (b := y7) hd hA)) hp hy hS
      have hq : zFits (zT1 T i (1 + k)) pt yr n sy sc = zP1 T pt yr n sy sc i (1 + k) := rfl
      rw [hq] at h
      have hz : zbt (zP1 T pt yr n sy sc i) 1 (k + 1) = if zP1 T pt yr n sy sc i (1 + k) = true then zbt (zP1 T pt yr n sy sc i) 1 k ||| ((1 : Int32) <<< (nI (1 + k) &&& 31)) else zbt (zP1 T pt yr n sy sc i) 1 k := rfl
      rw [hz]
      generalize zbt (zP1 T pt yr n sy sc i) 1 k = B
      generalize zP1 T pt yr n sy sc i (1 + k) = c at h
      have h' : p_X2_fits (nI n) ys cs (nI (t_d T)) (nI (t_ft T)) (nI pt) (nI (t_st T)) (nI (t_be T)) (nI yr) (upd (zct tr y7) (4 * i + 1) (nI (1 + k))) = some (zbI c, a, b) := h
      have hs : p_X5_suppose (nI i) (1 : Int32) (nI (1 + k)) (nI (t_d T)) (nI (t_ft T)) (nI pt) (nI (t_st T)) (nI (t_be T)) (nI yr) tr y7 = _ := a_sup (w := 1) (by omega) (by decide)
      unfold p_X5_fittingBits_b9
      try dsimp only
      rw [zgM_1, zbs, if_neg (show ¬ nI 20 < nI (1 + k) from nI_nlt (by omega) (by omega)), hs, zbs]
      try dsimp only
      rw [h', zbs, nI_1]
      try dsimp only
      cases c
      · rw [zbI_f, if_pos rfl, if_neg (by decide)]
        exact ⟨_, rfl, rfl, rfl⟩
      · rw [zbI_t, if_neg z1n0, if_pos rfl]
        exact ⟨_, rfl, rfl, rfl⟩)
    (by
      rintro ⟨u, v, y1, y2, y3, y4, y5, y6, y7⟩ ⟨e1, e2⟩
      have e2' : v = nI (1 + 20) := e2
      subst e2'
      refine ⟨(u, y1, y2, y3, y4, y5, y6, y7), ?_, e1⟩
      unfold p_X5_fittingBits_b9
      try dsimp only
      rw [zgM_1, zbs, if_pos (show nI 20 < nI (1 + 20) by decide)])
    ⟨rfl, rfl⟩ (by decide)
  unfold p_X5_fittingBits
  rw [zgL_1, zbs, h1, zbs, h2]
  exact ⟨_, rfl⟩
theorem b_bits1 (hV : zV T) (hM : zM T f 0 (-4) pt yr) (hp : pt < 100) (hy : yr ≤ 999) (hS : zSn n sy sc ys cs ms) {i : Nat} (hi : i < t_d T) (pb : Nat → Int32) : ∃ r, z_lp (p_X6_pullsOf_b14 (nI i) (-4) (nI n) ms) 1000 ((0 : Int32), (1 : Int32), f, pb) = some r ∧ r.1 = zbt (zP1 T pt yr n sy sc i) 1 20 ∧ zLx (0 + 5 + i) f r.2.1 ∧ (∀ v, 1 ≤ v → v < 21 → ∀ j, j < 31 → r.2.2 (31 * v + j) = nI (zps (zT1 T i v) pt yr j)) := by
  have hd := hV.1
  refine z_lp_inv (body := (p_X6_pullsOf_b14 (nI i) (-4) (nI n) ms)) (R := fun r => r.1 = zbt (zP1 T pt yr n sy sc i) 1 20 ∧ zLx (0 + 5 + i) f r.2.1 ∧ (∀ v, 1 ≤ v → v < 21 → ∀ j, j < 31 → r.2.2 (31 * v + j) = nI (zps (zT1 T i v) pt yr j))) 20 (fun k x => x.1 = zbt (zP1 T pt yr n sy sc i) 1 k ∧ x.2.1 = nI (1 + k) ∧ zLx (0 + 5 + i) f x.2.2.1 ∧ (∀ v, 1 ≤ v → v < 1 + k → ∀ j, j < 31 → x.2.2.2 (31 * v + j) = nI (zps (zT1 T i v) pt yr j))) 1000 _ ?_ ?_ ⟨rfl, rfl, zLx_r _ f, fun v h1 h2 => absurd h2 (by omega)⟩ (by decide)
  · rintro k ⟨u, v, g, pb⟩ hk ⟨e1, e2, e3, e4⟩
    have e1' : u = _ := e1
    have e2' : v = nI (1 + k) := e2
    subst e1' e2'
    have hx : zLx (0 + 5 + i) f g := e3
    have e4' : ∀ v, 1 ≤ v → v < 1 + k → ∀ j, j < 31 → pb (31 * v + j) = nI (zps (zT1 T i v) pt yr j) := e4
    have hM2 : zM (zT1 T i (1 + k)) (upd g (0 + 5 + i) (nI (1 + k))) 0 (-4) pt yr := zLx_M hd hx (zM_t1 hM hd hi)
    obtain ⟨g', pb', h1, h2, h3, h4⟩ := b_seen (T := zT1 T i (1 + k)) (zV_t1 hV (by omega)) hM2 hp hy hS (row := 1 + k) (by omega) pb
    have hq : zFits (zT1 T i (1 + k)) pt yr n sy sc = zP1 T pt yr n sy sc i (1 + k) := rfl
    rw [hq] at h1
    have hz : zbt (zP1 T pt yr n sy sc i) 1 (k + 1) = if zP1 T pt yr n sy sc i (1 + k) = true then zbt (zP1 T pt yr n sy sc i) 1 k ||| ((1 : Int32) <<< (nI (1 + k) &&& 31)) else zbt (zP1 T pt yr n sy sc i) 1 k := rfl
    rw [hz]
    generalize zbt (zP1 T pt yr n sy sc i) 1 k = B
    generalize zP1 T pt yr n sy sc i (1 + k) = c at h1
    have h1' : p_X6_isAsSeen (nI (1 + k)) (-4) (nI n) (upd g (0 + 5 + i) (nI (1 + k))) ms pb = some (zbI c, g', pb') := h1
    refine ⟨(if c = true then B ||| ((1 : Int32) <<< (nI (1 + k) &&& 31)) else B, nI (1 + (k + 1)), g', pb'), ?_, rfl, rfl, zLx_u hx h2, ?_⟩
    · unfold p_X6_pullsOf_b14
      try dsimp only
      rw [if_neg (show ¬ (20 : Int32) < nI (1 + k) from nI_nlt (a := 20) (by omega) (by decide)), z_set_e (0 + 5 + i) (by rw [zi5, nI_add]) (by omega) (by decide), zbs, h1', zbs, nI_1]
      try dsimp only
      cases c
      · rw [zbI_f, if_pos rfl, zor0]; rfl
      · rw [zbI_t, if_neg z1n0]; rfl
    · intro v hv1 hv2 j hj
      try dsimp only
      by_cases q : v = 1 + k
      · rw [q]; exact h3 j hj
      · rw [h4 _ (by omega)]; exact e4' v hv1 (by omega) j hj
  · rintro ⟨u, v, g, pb⟩ ⟨e1, e2, e3, e4⟩
    have e2' : v = nI (1 + 20) := e2
    subst e2'
    refine ⟨(u, g, pb), ?_, e1, e3, e4⟩
    unfold p_X6_pullsOf_b14
    try dsimp only
    rw [if_pos (show (20 : Int32) < nI (1 + 20) by decide)]
theorem b_pullsOf (hV : zV T) (hM : zM T f 0 (-4) pt yr) (hp : pt < 100) (hy : yr ≤ 999) (hS : zSn n sy sc ys cs ms) {i : Nat} (hi : i < t_d T) (pb : Nat → Int32) : ∃ g pb', p_X6_pullsOf (nI i) (-4) (nI n) f ms pb = some (zbt (zP1 T pt yr n sy sc i) 1 20, g, pb') ∧ zLo f g ∧ (∀ v, 1 ≤ v → v < 21 → ∀ j, j < 31 → pb' (31 * v + j) = nI (zps (zT1 T i v) pt yr j)) := by
  have hd := hV.1
  obtain ⟨r, h1, h2, h3, h4⟩ := b_bits1 hV hM hp hy hS hi pb
  refine ⟨upd r.2.1 (0 + 5 + i) (f (0 + 5 + i)), r.2.2, ?_, zLx_end h3, h4⟩
  unfold p_X6_pullsOf
  have e : (5 : Int32) + nI i = nI (0 + 5 + i) := by rw [zi5, nI_add]
  rw [e, z_get_n (by omega) (by decide), zbs, h1, zbs, z_set_n (by omega) (by decide), zbs, h2]
/-! spots -/
def zsp (P : Nat → Bool) : Nat → Nat × Int32
  | 0 => (0, -4)
  | k + 1 => if P k = true then ((zsp P k).1 + 1, if (zsp P k).1 = 0 then nI k else (zsp P k).2) else zsp P k
theorem zsp_le (P : Nat → Bool) : ∀ k, (zsp P k).1 ≤ k
  | 0 => Nat.le_refl 0
  | k + 1 => by
    have ih := zsp_le P k
    rw [zsp]
    split
    · show (zsp P k).1 + 1 ≤ k + 1
      omega
    · omega
theorem zsp_f (P : Nat → Bool) : ∀ k, k < 1000 → ((zsp P k).2 = (-4 : Int32) ↔ (zsp P k).1 = 0)
  | 0, _ => ⟨fun _ => rfl, fun _ => rfl⟩
  | k + 1, hk => by
    have ih := zsp_f P k (by omega)
    rw [zsp]
    split
    · show (if (zsp P k).1 = 0 then nI k else (zsp P k).2) = (-4 : Int32) ↔ (zsp P k).1 + 1 = 0
      constructor
      · intro q
        by_cases c : (zsp P k).1 = 0
        · rw [if_pos c] at q; exact absurd q (nI_m4 (by omega))
        · rw [if_neg c] at q; exact absurd (ih.mp q) c
      · intro q; exact absurd q (by omega)
    · exact ih
def zP2 (T : zTn) (pt yr n : Nat) (sy sc : Nat → Nat) (i v : Nat) : Bool := zFits (zT2 T i v) pt yr n sy sc
theorem a_spots (hV : zV T) (hA : zA T tr) (hp : pt < 100) (hy : yr ≤ 999) (hS : zSn n sy sc ys cs ms) {i : Nat} (hi : i < t_d T) (x1 x2 x3 x4 x5 x6 : Int32) (x7 : Nat → Int32) : ∃ r, z_lp (p_X5_spots_b29 (nI i) (nI (t_d T)) (nI (t_ft T)) (nI pt) (nI (t_st T)) (nI (t_be T)) (nI yr) tr (nI n) ys cs) 1000 ((0 : Int32), (-4 : Int32), (0 : Int32), x1, x2, x3, x4, x5, x6, x7) = some r ∧ r.1 = nI (zsp (zP2 T pt yr n sy sc i) 100).1 ∧ r.2.1 = (zsp (zP2 T pt yr n sy sc i) 100).2 := by
  have hd := hV.1
  refine z_lp_inv (body := (p_X5_spots_b29 (nI i) (nI (t_d T)) (nI (t_ft T)) (nI pt) (nI (t_st T)) (nI (t_be T)) (nI yr) tr (nI n) ys cs)) (R := fun r => r.1 = nI (zsp (zP2 T pt yr n sy sc i) 100).1 ∧ r.2.1 = (zsp (zP2 T pt yr n sy sc i) 100).2) 100 (fun k x => x.1 = nI (zsp (zP2 T pt yr n sy sc i) k).1 ∧ x.2.1 = (zsp (zP2 T pt yr n sy sc i) k).2 ∧ x.2.2.1 = nI k) 1000 _ ?_ ?_ ⟨rfl, rfl, rfl⟩ (by decide)
  · rintro k ⟨u, v, w, y1, y2, y3, y4, y5, y6, y7⟩ hk ⟨e1, e2, e3⟩
    have e1' : u = _ := e1
    have e2' : v = _ := e2
    have e3' : w = nI k := e3
    subst e1' e2' e3'
    obtain ⟨a, b, h⟩ := a_fits (T := zT2 T i k) (zV_t2 hV (by omega)) (zA_t2 (zA_ct (b := y7) hd hA)) hp hy hS
    have hq : zFits (zT2 T i k) pt yr n sy sc = zP2 T pt yr n sy sc i k := rfl
    rw [hq] at h
    have hf := zsp_f (zP2 T pt yr n sy sc i) k (by omega)
    have hz : zsp (zP2 T pt yr n sy sc i) (k + 1) = if zP2 T pt yr n sy sc i k = true then ((zsp (zP2 T pt yr n sy sc i) k).1 + 1, if (zsp (zP2 T pt yr n sy sc i) k).1 = 0 then nI k else (zsp (zP2 T pt yr n sy sc i) k).2) else zsp (zP2 T pt yr n sy sc i) k := rfl
    rw [hz]
    generalize zsp (zP2 T pt yr n sy sc i) k = B at hf
    generalize zP2 T pt yr n sy sc i k = c at h
    have h' : p_X2_fits (nI n) ys cs (nI (t_d T)) (nI (t_ft T)) (nI pt) (nI (t_st T)) (nI (t_be T)) (nI yr) (upd (zct tr y7) (4 * i + 2) (nI k)) = some (zbI c, a, b) := h
    have hs : p_X5_suppose (nI i) (2 : Int32) (nI k) (nI (t_d T)) (nI (t_ft T)) (nI pt) (nI (t_st T)) (nI (t_be T)) (nI yr) tr y7 = _ := a_sup (w := 2) (by omega) (by decide)
    unfold p_X5_spots_b29
    try dsimp only
    rw [if_neg (show ¬ (100 : Int32) ≤ nI k from nI_ge (b := 100) hk (by decide)), hs, zbs]
    try dsimp only
    rw [h', zbs, nI_1, nI_1]
    try dsimp only
    cases c
    · rw [zbI_f, if_pos rfl, if_neg (by decide)]
      exact ⟨_, rfl, rfl, rfl, rfl⟩
    · rw [zbI_t, if_neg z1n0, if_pos rfl]
      by_cases q : B.1 = 0
      · rw [if_pos (hf.mpr q), if_pos q]
        exact ⟨_, rfl, rfl, rfl, rfl⟩
      · rw [if_neg (fun z => q (hf.mp z)), if_neg q]
        exact ⟨_, rfl, rfl, rfl, rfl⟩
  · rintro ⟨u, v, w, y1, y2, y3, y4, y5, y6, y7⟩ ⟨e1, e2, e3⟩
    have e3' : w = nI 100 := e3
    subst e3'
    refine ⟨(u, v, y1, y2, y3, y4, y5, y6, y7), ?_, e1, e2⟩
    unfold p_X5_spots_b29
    try dsimp only
    rw [if_pos (show (100 : Int32) ≤ nI 100 by decide)]
theorem b_spots (hV : zV T) (hM : zM T f 0 (-4) pt yr) (hp : pt < 100) (hy : yr ≤ 999) (hS : zSn n sy sc ys cs ms) {i : Nat} (hi : i < t_d T) (pb : Nat → Int32) : ∃ r, z_lp (p_X6_spots_b40 (nI i) (-4) (nI n) ms) 1000 ((0 : Int32), (-4 : Int32), (0 : Int32), f, pb) = some r ∧ r.1 = nI (zsp (zP2 T pt yr n sy sc i) 100).1 ∧ r.2.1 = (zsp (zP2 T pt yr n sy sc i) 100).2 ∧ zLx (0 + 10 + i) f r.2.2.1 := by
  have hd := hV.1
  refine z_lp_inv (body := (p_X6_spots_b40 (nI i) (-4) (nI n) ms)) (R := fun r => r.1 = nI (zsp (zP2 T pt yr n sy sc i) 100).1 ∧ r.2.1 = (zsp (zP2 T pt yr n sy sc i) 100).2 ∧ zLx (0 + 10 + i) f r.2.2.1) 100 (fun k x => x.1 = nI (zsp (zP2 T pt yr n sy sc i) k).1 ∧ x.2.1 = (zsp (zP2 T pt yr n sy sc i) k).2 ∧ x.2.2.1 = nI k ∧ zLx (0 + 10 + i) f x.2.2.2.1) 1000 _ ?_ ?_ ⟨rfl, rfl, rfl, zLx_r _ f⟩ (by decide)
  · rintro k ⟨u, v, w, g, pb⟩ hk ⟨e1, e2, e3, e4⟩
    have e1' : u = _ := e1
    have e2' : v = _ := e2
    have e3' : w = nI k := e3
    subst e1' e2' e3'
    have hx : zLx (0 + 10 + i) f g := e4
    have hM2 : zM (zT2 T i k) (upd g (0 + 10 + i) (nI k)) 0 (-4) pt yr := zLx_M hd hx (zM_t2 hM hd hi)
    obtain ⟨g', pb', h1, h2, -, -⟩ := b_seen (T := zT2 T i k) (zV_t2 hV (by omega)) hM2 hp hy hS (row := 0) (by omega) pb
    have hq : zFits (zT2 T i k) pt yr n sy sc = zP2 T pt yr n sy sc i k := rfl
    rw [hq] at h1
    have hle := zsp_le (zP2 T pt yr n sy sc i) k
    have hz : zsp (zP2 T pt yr n sy sc i) (k + 1) = if zP2 T pt yr n sy sc i k = true then ((zsp (zP2 T pt yr n sy sc i) k).1 + 1, if (zsp (zP2 T pt yr n sy sc i) k).1 = 0 then nI k else (zsp (zP2 T pt yr n sy sc i) k).2) else zsp (zP2 T pt yr n sy sc i) k := rfl
    rw [hz]
    generalize zsp (zP2 T pt yr n sy sc i) k = B at hle
    generalize zP2 T pt yr n sy sc i k = c at h1
    have h1' : p_X6_isAsSeen (0 : Int32) (-4) (nI n) (upd g (0 + 10 + i) (nI k)) ms pb = some (zbI c, g', pb') := h1
    unfold p_X6_spots_b40
    try dsimp only
    rw [if_neg (show ¬ (100 : Int32) ≤ nI k from nI_ge (b := 100) hk (by decide)), z_set_e (0 + 10 + i) (by rw [zi10, nI_add]) (by omega) (by decide), zbs, h1', zbs, nI_1, nI_1, zadd0]
    try dsimp only
    cases c
    · rw [zbI_f, if_pos rfl, if_pos rfl, if_neg (by decide)]
      exact ⟨_, rfl, rfl, rfl, rfl, zLx_u hx h2⟩
    · rw [zbI_t, if_neg z1n0, if_neg z1n0, if_pos rfl]
      by_cases q : B.1 = 0
      · rw [if_pos (show nI B.1 = (0 : Int32) by rw [q]; rfl), if_pos q]
        exact ⟨_, rfl, rfl, rfl, rfl, zLx_u hx h2⟩
      · rw [if_neg (show ¬ nI B.1 = (0 : Int32) from nI_ne' (b := 0) q (by omega) (by decide)), if_neg q]
        exact ⟨_, rfl, rfl, rfl, rfl, zLx_u hx h2⟩
  · rintro ⟨u, v, w, g, pb⟩ ⟨e1, e2, e3, e4⟩
    have e3' : w = nI 100 := e3
    subst e3'
    refine ⟨(u, v, g, pb), ?_, e1, e2, e4⟩
    unfold p_X6_spots_b40
    try dsimp only
    rw [if_pos (show (100 : Int32) ≤ nI 100 by decide)]
end ZK
