/-! THE LEAST of several, the first of them: hush, kind -/
def zbf (h : Nat → Nat) (lab : Nat → Int32) (s : Int32 × Nat) : Nat → Int32 × Nat
  | 0 => s
  | n + 1 => if (zbf h lab s n).2 ≤ h n then zbf h lab s n else (lab n, h n)
theorem zbf_le {h : Nat → Nat} {lab : Nat → Int32} {s : Int32 × Nat} {B : Nat} (hs : s.2 ≤ B) (hh : ∀ i, h i ≤ B) : ∀ n, (zbf h lab s n).2 ≤ B
  | 0 => hs
  | n + 1 => by
    have ih := zbf_le (lab := lab) hs hh n
    rw [zbf]
    split
    · exact ih
    · exact hh n
theorem zbf_eq {h : Nat → Nat} {lab : Nat → Int32} {a b : Int32} {m : Nat} (h0 : h 0 < m) : ∀ n, zbf h lab (a, m) (n + 1) = zbf h lab (b, m) (n + 1)
  | 0 => by
    show (if m ≤ h 0 then (a, m) else (lab 0, h 0)) = (if m ≤ h 0 then (b, m) else (lab 0, h 0))
    rw [if_neg (by omega), if_neg (by omega)]
  | n + 1 => by
    have ih := zbf_eq (lab := lab) (a := a) (b := b) h0 n
    rw [zbf, ih]
    rfl
theorem zbf_lab {h : Nat → Nat} {lab : Nat → Int32} {a : Int32} {m : Nat} (h0 : h 0 < m) : ∀ n, ∃ k, k ≤ n ∧ (zbf h lab (a, m) (n + 1)).1 = lab k
  | 0 => by
    refine ⟨0, Nat.le_refl 0, ?_⟩
    show (if m ≤ h 0 then (a, m) else (lab 0, h 0)).1 = lab 0
    rw [if_neg (by omega)]
  | n + 1 => by
    obtain ⟨k, hk, e⟩ := zbf_lab (lab := lab) (a := a) h0 n
    rw [zbf]
    split
    · exact ⟨k, by omega, e⟩
    · exact ⟨n + 1, Nat.le_refl _, rfl⟩
theorem zi1M : (1000000 : Int32) = nI 1000000 := rfl
section ZB
variable {T : zTn} {tr f : Nat → Int32} {pt yr : Nat}
/-- leanAhead -/
theorem a_ahead (hV : zV T) (hA : zA T tr) (hp : pt < 100) (hy : yr ≤ 999) (x7 : Nat → Int32) : p_X5_leanAhead (nI (t_d T)) (nI (t_ft T)) (nI pt) (nI (t_st T)) (nI (t_be T)) (nI yr) tr x7 = some (nI (zgl T pt yr 60), nI (t_d T), nI (t_ft T), nI (zps T pt yr 60), nI (t_st T), nI (t_be T), nI (yr + 60), zct tr x7) := by
  have h := a_glean (n := 60) hV (zA_ct (b := x7) hV.1 hA) hp (yr := yr) (by omega) (by decide)
  generalize zgl T pt yr 60 = k at h
  generalize zps T pt yr 60 = p at h
  unfold p_X5_leanAhead p_X4_copyFrom
  rw [zbs]
  show (p_X4_greatestLean (nI 60) (nI (t_d T)) (nI (t_ft T)) (nI pt) (nI (t_st T)) (nI (t_be T)) (nI yr) (zct tr x7)).bind _ = _
  rw [h]
  rfl
def zhush (T : zTn) (pt yr i : Nat) : Nat := zgl (zT3 T i 1000000) pt yr 60
theorem zhush_le (hV : zV T) (hp : pt < 100) (i : Nat) : zhush T pt yr i ≤ 18 := zgl_le (zV_t3 hV (by decide)) hp 60
theorem a_hush (hV : zV T) (hA : zA T tr) (hp : pt < 100) (hy : yr ≤ 999) {m : Nat} (hm : m ≤ 18) (x1 x2 x3 x4 x5 x6 : Int32) (x7 : Nat → Int32) : ∃ r, z_lp (p_X5_hush_b20 (nI (t_d T)) (nI (t_ft T)) (nI pt) (nI (t_st T)) (nI (t_be T)) (nI yr) tr) 1000 ((-4 : Int32), nI m, (0 : Int32), x1, x2, x3, x4, x5, x6, x7) = some r ∧ r.1 = (zbf (zhush T pt yr) nI (-4, m) (t_d T)).1 ∧ r.2.1 = nI (zbf (zhush T pt yr) nI (-4, m) (t_d T)).2 := by
  have hd := hV.1
  have hB := zbf_le (h := zhush T pt yr) (lab := nI) (s := ((-4 : Int32), m)) (B := 18) hm (zhush_le hV hp)
  refine z_lp_inv (body := (p_X5_hush_b20 (nI (t_d T)) (nI (t_ft T)) (nI pt) (nI (t_st T)) (nI (t_be T)) (nI yr) tr)) (R := fun r => r.1 = (zbf (zhush T pt yr) nI (-4, m) (t_d T)).1 ∧ r.2.1 = nI (zbf (zhush T pt yr) nI (-4, m) (t_d T)).2) (t_d T) (fun i x => x.1 = (zbf (zhush T pt yr) nI (-4, m) i).1 ∧ x.2.1 = nI (zbf (zhush T pt yr) nI (-4, m) i).2 ∧ x.2.2.1 = nI i) 1000 _ ?_ ?_ ⟨rfl, rfl, rfl⟩ (by omega)
  · rintro i ⟨u, v, w, y1, y2, y3, y4, y5, y6, y7⟩ hi ⟨e1, e2, e3⟩
    have e1' : u = _ := e1
    have e2' : v = _ := e2
    have e3' : w = nI i := e3
    subst e1' e2' e3'
    have h := a_glean (T := zT3 T i 1000000) (n := 60) (zV_t3 hV (by decide)) (zA_t3 (zA_ct (b := y7) hd hA)) hp (yr := yr) (by omega) (by decide)
    have hk : zgl (zT3 T i 1000000) pt yr 60 = zhush T pt yr i := rfl
    have hk18 := zhush_le hV (yr := yr) hp i
    rw [hk] at h
    have hBi := hB i
    have hz : zbf (zhush T pt yr) nI ((-4 : Int32), m) (i + 1) = if (zbf (zhush T pt yr) nI ((-4 : Int32), m) i).2 ≤ zhush T pt yr i then zbf (zhush T pt yr) nI ((-4 : Int32), m) i else (nI i, zhush T pt yr i) := rfl
    rw [hz]
    generalize zbf (zhush T pt yr) nI ((-4 : Int32), m) i = b at hBi
    generalize zhush T pt yr i = k at h hk18
    generalize zps (zT3 T i 1000000) pt yr 60 = p at h
    have h' : p_X4_greatestLean (60 : Int32) (nI (t_d T)) (nI (t_ft T)) (nI pt) (nI (t_st T)) (nI (t_be T)) (nI yr) (upd (zct tr y7) (4 * i + 3) (1000000 : Int32)) = some (nI k, nI p, nI (yr + 60)) := h
    have hs : p_X5_suppose (nI i) (3 : Int32) (1000000 : Int32) (nI (t_d T)) (nI (t_ft T)) (nI pt) (nI (t_st T)) (nI (t_be T)) (nI yr) tr y7 = _ := a_sup (w := 3) (by omega) (by decide)
    unfold p_X5_hush_b20
    try dsimp only
    rw [if_neg (nI_ge hi (by omega)), hs, zbs]
    try dsimp only
    rw [h', zbs]
    try dsimp only
    rw [nI_1]
    by_cases q : b.2 ≤ k
    · rw [if_pos (nI_le q (by omega)), if_pos q]
      exact ⟨_, rfl, rfl, rfl, rfl⟩
    · rw [if_neg (nI_nle' q (by omega)), if_neg q]
      exact ⟨_, rfl, rfl, rfl, rfl⟩
  · rintro ⟨u, v, w, y1, y2, y3, y4, y5, y6, y7⟩ ⟨e1, e2, e3⟩
    have e3' : w = nI (t_d T) := e3
    subst e3'
    unfold p_X5_hush_b20
    try dsimp only
    rw [if_pos (nI_le (Nat.le_refl _) (by omega))]
    exact ⟨_, rfl, e1, e2⟩
theorem zM_sil {g : Nat → Int32} {i : Nat} (hM : zM T g 0 (-4) pt yr) (hd : t_d T ≤ 5) (hi : i < 2 ^ 31) : zM (zT3 T i 1000000) g 0 (nI i) pt yr := by
  obtain ⟨h1, h2, h3, h4, h5, h6, h7⟩ := hM
  refine ⟨h1, h2, h3, h4, h5, h6, fun j hj => ?_⟩
  have hj' : j < t_d T := hj
  obtain ⟨q1, q2, q3, q4, q5⟩ := h7 j hj
  refine ⟨q1, q2, q3, ?_, ?_⟩
  · intro z
    show zup (t_si T) i 1000000 j = 1000000
    by_cases e : j = i
    · rw [e, zup_s]
    · exact absurd ((nI_eq (by omega) hi).mp z) e
  · intro z
    show g (0 + 15 + j) = nI (zup (t_si T) i 1000000 j)
    by_cases e : j = i
    · rw [e] at z; exact absurd rfl z
    · rw [zup_n e]
      exact q5 (nI_m4 (by omega))
theorem b_hush (hV : zV T) (hM : zM T f 0 (-4) pt yr) (hp : pt < 100) (hy : yr ≤ 999) {m : Nat} (hm : m ≤ 18) (x1 x2 x3 : Int32) {g : Nat → Int32} (hlo : zLo f g) : ∃ r, z_lp p_X6_hush_b30 1000 (nI m, (-4 : Int32), (0 : Int32), (-4 : Int32), x1, x2, x3, g) = some r ∧ r.2.1 = (zbf (zhush T pt yr) nI (-4, m) (t_d T)).1 ∧ r.1 = nI (zbf (zhush T pt yr) nI (-4, m) (t_d T)).2 ∧ r.2.2.1 = -4 ∧ zLo f r.2.2.2.2.2.2 := by
  have hd := hV.1
  have hB := zbf_le (h := zhush T pt yr) (lab := nI) (s := ((-4 : Int32), m)) (B := 18) hm (zhush_le hV hp)
  refine z_lp_inv (body := p_X6_hush_b30) (R := fun r => r.2.1 = (zbf (zhush T pt yr) nI (-4, m) (t_d T)).1 ∧ r.1 = nI (zbf (zhush T pt yr) nI (-4, m) (t_d T)).2 ∧ r.2.2.1 = -4 ∧ zLo f r.2.2.2.2.2.2) (t_d T) (fun i x => x.2.1 = (zbf (zhush T pt yr) nI (-4, m) i).1 ∧ x.1 = nI (zbf (zhush T pt yr) nI (-4, m) i).2 ∧ x.2.2.1 = nI i ∧ x.2.2.2.1 = -4 ∧ zLo f x.2.2.2.2.2.2.2) 1000 _ ?_ ?_ ⟨rfl, rfl, rfl, rfl, hlo⟩ (by omega)
  · rintro i ⟨u, v, w, si, y1, y2, y3, g⟩ hi ⟨e1, e2, e3, e4, e5⟩
    have e1' : v = _ := e1
    have e2' : u = _ := e2
    have e3' : w = nI i := e3
    subst e1' e2' e3'
    have e5' : zLo f g := e5
    have hMg := zLo_M hd e5' hM
    have g20 : z_get g 156 (20 : Int32) = some (nI (t_d T)) := by rw [← hMg.1]; exact z_get_n (i := 20) (by decide) (by decide)
    have h := b_go (T := zT3 T i 1000000) (pg := 0) (n := 60) (zV_t3 hV (by decide)) (Or.inl rfl) (zM_sil (i := i) hMg hd (by omega)) hp (by omega) (by decide)
    have hk : zgl (zT3 T i 1000000) pt yr 60 = zhush T pt yr i := rfl
    have hk18 := zhush_le hV (yr := yr) hp i
    rw [hk] at h
    have hBi := hB i
    have hz : zbf (zhush T pt yr) nI ((-4 : Int32), m) (i + 1) = if (zbf (zhush T pt yr) nI ((-4 : Int32), m) i).2 ≤ zhush T pt yr i then zbf (zhush T pt yr) nI ((-4 : Int32), m) i else (nI i, zhush T pt yr i) := rfl
    rw [hz]
    generalize zbf (zhush T pt yr) nI ((-4 : Int32), m) i = b at hBi
    generalize zhush T pt yr i = k at h hk18
    have hl2 : zLo f (zyr (zcp g 0 104) 104 (zps (zT3 T i 1000000) pt yr 60) (yr + 60)) := zLo_y (zLo_c e5' (by decide)) (by decide)
    generalize zyr (zcp g 0 104) 104 (zps (zT3 T i 1000000) pt yr 60) (yr + 60) = g2 at h hl2
    generalize nI (zmv (zT3 T i 1000000) pt yr 60) = a1 at h
    generalize zhs (zT3 T i 1000000) pt yr 60 = a2 at h
    have h' : p_X6_yearsGo (0 : Int32) (60 : Int32) (nI i) g = some (nI k, a1, a2, g2) := h
    unfold p_X6_hush_b30
    try dsimp only
    rw [g20, zbs, if_neg (nI_ge hi (by omega)), h', zbs]
    try dsimp only
    rw [nI_1]
    by_cases q : b.2 ≤ k
    · rw [if_pos (nI_le q (by omega)), if_pos (nI_le q (by omega)), if_pos q]
      exact ⟨_, rfl, rfl, rfl, rfl, rfl, hl2⟩
    · rw [if_neg (nI_nle' q (by omega)), if_neg (nI_nle' q (by omega)), if_neg q]
      exact ⟨_, rfl, rfl, rfl, rfl, rfl, hl2⟩
  · rintro ⟨u, v, w, si, y1, y2, y3, g⟩ ⟨e1, e2, e3, e4, e5⟩
    have e3' : w = nI (t_d T) := e3
    subst e3'
    have e5' : zLo f g := e5
    have hMg := zLo_M hd e5' hM
    have g20 : z_get g 156 (20 : Int32) = some (nI (t_d T)) := by rw [← hMg.1]; exact z_get_n (i := 20) (by decide) (by decide)
    unfold p_X6_hush_b30
    try dsimp only
    rw [g20, zbs, if_pos (nI_le (Nat.le_refl _) (by omega))]
    exact ⟨_, rfl, e1, e2, e4, e5⟩
/-- kind -/
def zkin (T : zTn) (pt yr i n v : Nat) : Nat := zfar (t_ca T i) (zps (zT0 T i v) pt yr n)
theorem a_kind (hV : zV T) (hA : zA T tr) (hp : pt < 100) (hy : yr ≤ 999) {i n : Nat} (hi : i < t_d T) (hn : n ≤ 60) (x1 x2 x3 x4 x5 x6 : Int32) (x7 : Nat → Int32) : ∃ r, z_lp (p_X5_kind_b45 (nI i) (nI (t_d T)) (nI (t_ft T)) (nI pt) (nI (t_st T)) (nI (t_be T)) (nI yr) tr (nI n)) 1000 ((-4 : Int32), (100 : Int32), nI 0, x1, x2, x3, x4, x5, x6, x7) = some r ∧ r.1 = (zbf (zkin T pt yr i n) nI (-4, 100) 4).1 ∧ r.2.1 = nI (zbf (zkin T pt yr i n) nI (-4, 100) 4).2 := by
  have hd := hV.1
  have hca := (hV.2.2.2.2 i hi).2.2.1
  have hz18 : ∀ v, v < 4 → zkin T pt yr i n v ≤ 18 := fun v hv => zfar_le hca (zps_lt (zV_t0 hV (by omega)) hp n)
  have hB : ∀ v, v ≤ 4 → (zbf (zkin T pt yr i n) nI ((-4 : Int32), 100) v).2 ≤ 100 := by
    intro v hv
    induction v with
    | zero => exact Nat.le_refl _
    | succ v ih =>
      have := hz18 v (by omega)
      have ih' := ih (by omega)
      rw [zbf]
      split
      · exact ih'
      · show zkin T pt yr i n v ≤ 100
        omega
  refine z_lp_inv (body := (p_X5_kind_b45 (nI i) (nI (t_d T)) (nI (t_ft T)) (nI pt) (nI (t_st T)) (nI (t_be T)) (nI yr) tr (nI n))) (R := fun r => r.1 = (zbf (zkin T pt yr i n) nI (-4, 100) 4).1 ∧ r.2.1 = nI (zbf (zkin T pt yr i n) nI (-4, 100) 4).2) 4 (fun v x => x.1 = (zbf (zkin T pt yr i n) nI (-4, 100) v).1 ∧ x.2.1 = nI (zbf (zkin T pt yr i n) nI (-4, 100) v).2 ∧ x.2.2.1 = nI v) 1000 _ ?_ ?_ ⟨rfl, rfl, rfl⟩ (by decide)
  · rintro v ⟨u, s, w, y1, y2, y3, y4, y5, y6, y7⟩ hv ⟨e1, e2, e3⟩
    have e1' : u = _ := e1
    have e2' : s = _ := e2
    have e3' : w = nI v := e3
    subst e1' e2' e3'
    have hV' := zV_t0 (i := i) (v := v) hV (by omega)
    have hA' := zA_t0 (i := i) (v := v) (zA_ct (b := y7) hd hA)
    have h := a_years (T := zT0 T i v) (n := n) hV' hA' hp (yr := yr) (by omega) (by omega)
    have hg : p_X4_gap (nI i) (nI (zps (zT0 T i v) pt yr n)) (upd (zct tr y7) (4 * i + 0) (nI v)) = some (nI (zkin T pt yr i n v)) := by
      unfold p_X4_gap
      rw [zi2, a_trait (T := T) (by omega) (by decide), (hA' i hi).2.2.1, zbs]
      show (p_X5_far (nI (t_ca T i)) (nI (zps (zT0 T i v) pt yr n))).bind _ = _
      rw [a_far hca (zps_lt hV' hp n)]
      rfl
    have hk18 := hz18 v hv
    have hBi := hB v (by omega)
    have hz : zbf (zkin T pt yr i n) nI ((-4 : Int32), 100) (v + 1) = if (zbf (zkin T pt yr i n) nI ((-4 : Int32), 100) v).2 ≤ zkin T pt yr i n v then zbf (zkin T pt yr i n) nI ((-4 : Int32), 100) v else (nI v, zkin T pt yr i n v) := rfl
    rw [hz]
    generalize zbf (zkin T pt yr i n) nI ((-4 : Int32), 100) v = b at hBi
    generalize zkin T pt yr i n v = k at hg hk18
    generalize zps (zT0 T i v) pt yr n = p at h hg
    have h' : p_X4_passYears (nI n) (nI (t_d T)) (nI (t_ft T)) (nI pt) (nI (t_st T)) (nI (t_be T)) (nI yr) (upd (zct tr y7) (4 * i + 0) (nI v)) = some (nI p, nI (yr + n)) := h
    have hs : p_X5_suppose (nI i) (0 : Int32) (nI v) (nI (t_d T)) (nI (t_ft T)) (nI pt) (nI (t_st T)) (nI (t_be T)) (nI yr) tr y7 = _ := a_sup (w := 0) (by omega) (by decide)
    unfold p_X5_kind_b45
    try dsimp only
    rw [zgM_0, zbs, if_neg (show ¬ nI 3 < nI v from nI_nlt (by omega) (by omega)), hs, zbs]
    try dsimp only
    rw [h', zbs]
    try dsimp only
    rw [hg, zbs, nI_1]
    by_cases q : b.2 ≤ k
    · rw [if_pos (nI_le q (by omega)), if_pos q]
      exact ⟨_, rfl, rfl, rfl, rfl⟩
    · rw [if_neg (nI_nle' q (by omega)), if_neg q]
      exact ⟨_, rfl, rfl, rfl, rfl⟩
  · rintro ⟨u, s, w, y1, y2, y3, y4, y5, y6, y7⟩ ⟨e1, e2, e3⟩
    have e3' : w = nI 4 := e3
    subst e3'
    unfold p_X5_kind_b45
    try dsimp only
    rw [zgM_0, zbs, if_pos (show nI 3 < nI 4 by decide)]
    exact ⟨_, rfl, e1, e2⟩
theorem b_kind (hV : zV T) (hM : zM T f 0 (-4) pt yr) (hp : pt < 100) (hy : yr ≤ 999) {i n : Nat} (hi : i < t_d T) (hn : n ≤ 60) (x1 x2 x3 : Int32) : ∃ r, z_lp (p_X6_kind_b42 (nI i) (nI n) (-4)) 1000 ((100 : Int32), (0 : Int32), (0 : Int32), x1, x2, x3, f) = some r ∧ r.2.1 = (zbf (zkin T pt yr i n) nI (0, 100) 4).1 ∧ r.1 = nI (zbf (zkin T pt yr i n) nI (0, 100) 4).2 ∧ zLo f r.2.2.2.2.2 := by
  have hd := hV.1
  have hca := (hV.2.2.2.2 i hi).2.2.1
  have hz18 : ∀ v, v < 4 → zkin T pt yr i n v ≤ 18 := fun v hv => zfar_le hca (zps_lt (zV_t0 hV (by omega)) hp n)
  have hB : ∀ v, v ≤ 4 → (zbf (zkin T pt yr i n) nI ((0 : Int32), 100) v).2 ≤ 100 := by
    intro v hv
    induction v with
    | zero => exact Nat.le_refl _
    | succ v ih =>
      have := hz18 v (by omega)
      have ih' := ih (by omega)
      rw [zbf]
      split
      · exact ih'
      · show zkin T pt yr i n v ≤ 100
        omega
  refine z_lp_inv (body := (p_X6_kind_b42 (nI i) (nI n) (-4))) (R := fun r => r.2.1 = (zbf (zkin T pt yr i n) nI (0, 100) 4).1 ∧ r.1 = nI (zbf (zkin T pt yr i n) nI (0, 100) 4).2 ∧ zLo f r.2.2.2.2.2) 4 (fun v x => x.2.1 = (zbf (zkin T pt yr i n) nI (0, 100) v).1 ∧ x.1 = nI (zbf (zkin T pt yr i n) nI (0, 100) v).2 ∧ x.2.2.1 = nI v ∧ zLo f x.2.2.2.2.2.2) 1000 _ ?_ ?_ ⟨rfl, rfl, rfl, zLo_r f⟩ (by decide)
  · rintro v ⟨s, u, w, y1, y2, y3, g⟩ hv ⟨e1, e2, e3, e5⟩
    have e1' : u = _ := e1
    have e2' : s = _ := e2
    have e3' : w = nI v := e3
    subst e1' e2' e3'
    have e5' : zLo f g := e5
    have hV' := zV_t0 (i := i) (v := v) hV (by omega)
    have hM2 : zM (zT0 T i v) (upd (zcp g 0 130) (130 + i) (nI v)) 130 (-4) pt yr := zM_t0 (zM_cp hd (zLo_M hd e5' hM)) hd hi
    have hlo2 : zLo f (upd (zcp g 0 130) (130 + i) (nI v)) := zLo_u (zLo_c e5' (by decide)) (by omega)
    have h := b_go (T := zT0 T i v) (pg := 130) (n := n) hV' (Or.inr rfl) hM2 hp (by omega) (by omega)
    have hl3 : zLo f (zyr (zcp (upd (zcp g 0 130) (130 + i) (nI v)) 130 104) 104 (zps (zT0 T i v) pt yr n) (yr + n)) := zLo_y (zLo_c hlo2 (by decide)) (by decide)
    have M3 := zyr_M (zM_cp (T := zT0 T i v) (b := 104) hd hM2) (zps (zT0 T i v) pt yr n) (yr + n) hd
    have hpt : p_X6_pointOn (104 : Int32) (zyr (zcp (upd (zcp g 0 130) (130 + i) (nI v)) 130 104) 104 (zps (zT0 T i v) pt yr n) (yr + n)) = some (nI (zps (zT0 T i v) pt yr n)) := b_point M3 (by decide)
    have hat : z_get (zyr (zcp (upd (zcp g 0 130) (130 + i) (nI v)) 130 104) 104 (zps (zT0 T i v) pt yr n) (yr + n)) 156 ((10 : Int32) + nI i) = some (nI (t_ca T i)) := by
      rw [z_get_e (0 + 10 + i) (by rw [zi10, nI_add]) (by omega) (by decide), hl3 _ (by omega), (hM.2.2.2.2.2.2 i hi).2.2.1]
    have hfr : p_X6_farOf (nI (t_ca T i)) (nI (zps (zT0 T i v) pt yr n)) = some (nI (zkin T pt yr i n v)) := b_far hca (zps_lt hV' hp n)
    have hk18 := hz18 v hv
    have hBi := hB v (by omega)
    have hz : zbf (zkin T pt yr i n) nI ((0 : Int32), 100) (v + 1) = if (zbf (zkin T pt yr i n) nI ((0 : Int32), 100) v).2 ≤ zkin T pt yr i n v then zbf (zkin T pt yr i n) nI ((0 : Int32), 100) v else (nI v, zkin T pt yr i n v) := rfl
    rw [hz]
    generalize zbf (zkin T pt yr i n) nI ((0 : Int32), 100) v = b at hBi
    generalize zkin T pt yr i n v = k at hfr hk18
    generalize zyr (zcp (upd (zcp g 0 130) (130 + i) (nI v)) 130 104) 104 (zps (zT0 T i v) pt yr n) (yr + n) = g2 at h hl3 hpt hat
    generalize zps (zT0 T i v) pt yr n = p at hpt hfr
    have h' : ∃ a0 a1 a2, p_X6_yearsGo (130 : Int32) (nI n) (-4) (upd (zcp g 0 130) (130 + i) (nI v)) = some (a0, a1, a2, g2) := ⟨_, _, _, h⟩
    obtain ⟨a0, a1, a2, h'⟩ := h'
    unfold p_X6_kind_b42
    try dsimp only
    rw [if_neg (show ¬ (4 : Int32) ≤ nI v from nI_ge (b := 4) hv (by decide)), b_cp130, zbs, z_set_e (130 + i) (by rw [show (130 : Int32) = nI 130 from rfl, nI_add]) (by omega) (by decide), zbs, h', zbs]
    try dsimp only
    rw [hat, zbs, hpt, zbs, hfr, zbs, nI_1]
    by_cases q : b.2 ≤ k
    · rw [if_pos (nI_le q (by omega)), if_pos (nI_le q (by omega)), if_pos q]
      exact ⟨_, rfl, rfl, rfl, rfl, hl3⟩
    · rw [if_neg (nI_nle' q (by omega)), if_neg (nI_nle' q (by omega)), if_neg q]
      exact ⟨_, rfl, rfl, rfl, rfl, hl3⟩
  · rintro ⟨s, u, w, y1, y2, y3, g⟩ ⟨e1, e2, e3, e5⟩
    have e3' : w = nI 4 := e3
    subst e3'
    unfold p_X6_kind_b42
    try dsimp only
    rw [if_pos (show (4 : Int32) ≤ nI 4 by decide)]
    exact ⟨_, rfl, e1, e2, e5⟩
end ZB
