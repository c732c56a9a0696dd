/-! SWAP -/
theorem zbf_leN {h : Nat → Nat} {lab : Nat → Int32} {s : Int32 × Nat} {B N : Nat} (hs : s.2 ≤ B) (hh : ∀ i, i < N → h i ≤ B) : ∀ n, n ≤ N → (zbf h lab s n).2 ≤ B
  | 0, _ => hs
  | n + 1, hn => by
    have ih := zbf_leN (lab := lab) hs hh n (by omega)
    rw [zbf]
    split
    · exact ih
    · exact hh n (by omega)
def zTw (T : zTn) (i j : Nat) : zTn := zT2 (zT2 T i (t_ca T j)) j (t_ca T i)
def zwh (T : zTn) (pt yr i j : Nat) : Nat := zgl (zTw T i j) pt yr 60
def zwi (T : zTn) (pt yr i : Nat) (s : Int32 × Nat) (n : Nat) : Int32 × Nat := zbf (fun k => zwh T pt yr i (i + 1 + k)) (fun k => nI (10 * i + (i + 1 + k))) s n
def zsw (T : zTn) (pt yr m : Nat) : Nat → Int32 × Nat
  | 0 => (-4, m)
  | i + 1 => zwi T pt yr i (zsw T pt yr m i) (t_d T - (i + 1))
section ZW
variable {T : zTn} {tr f : Nat → Int32} {pt yr : Nat}
theorem zTw_V (hV : zV T) {i j : Nat} (hi : i < t_d T) (hj : j < t_d T) : zV (zTw T i j) := zV_t2 (zV_t2 hV (hV.2.2.2.2 j hj).2.2.1) (hV.2.2.2.2 i hi).2.2.1
theorem zwh_le (hV : zV T) (hp : pt < 100) {i j : Nat} (hi : i < t_d T) (hj : j < t_d T) : zwh T pt yr i j ≤ 18 := zgl_le (zTw_V hV hi hj) hp 60
theorem zwi_le (hV : zV T) (hp : pt < 100) {i : Nat} {s : Int32 × Nat} (hs : s.2 ≤ 18) (hi : i < t_d T) : ∀ n, n ≤ t_d T - (i + 1) → (zwi T pt yr i s n).2 ≤ 18 := fun n hn => zbf_leN hs (fun k hk => zwh_le hV hp hi (by omega)) n hn
theorem zsw_le (hV : zV T) (hp : pt < 100) {m : Nat} (hm : m ≤ 18) : ∀ i, i ≤ t_d T → (zsw T pt yr m i).2 ≤ 18
  | 0, _ => hm
  | i + 1, hi => zwi_le hV hp (zsw_le hV hp hm i (by omega)) (by omega) _ (Nat.le_refl _)
theorem a_swi (hV : zV T) (hA : zA T tr) (hp : pt < 100) (hy : yr ≤ 999) {i : Nat} (hi : i < t_d T) {s : Int32 × Nat} (hs : s.2 ≤ 18) (O : Int32 × Int32 × Int32 × Int32 × Int32 × Int32 × Int32 × Int32 × Int32 × (Nat → Int32)) (hO : O.2.2.1 = nI i) (x1 x2 x3 x4 x5 x6 : Int32) (x7 : Nat → Int32) : ∃ r, z_lp (p_X5_swap_b38 (nI (t_d T)) tr O (nI (t_ft T)) (nI pt) (nI (t_st T)) (nI (t_be T)) (nI yr)) 1000 (s.1, nI s.2, nI (i + 1), x1, x2, x3, x4, x5, x6, x7) = some r ∧ r.1 = (zwi T pt yr i s (t_d T - (i + 1))).1 ∧ r.2.1 = nI (zwi T pt yr i s (t_d T - (i + 1))).2 := by
  have hd := hV.1
  have hB := zwi_le hV (yr := yr) hp hs hi
  refine z_lp_inv (body := (p_X5_swap_b38 (nI (t_d T)) tr O (nI (t_ft T)) (nI pt) (nI (t_st T)) (nI (t_be T)) (nI yr))) (R := fun r => r.1 = (zwi T pt yr i s (t_d T - (i + 1))).1 ∧ r.2.1 = nI (zwi T pt yr i s (t_d T - (i + 1))).2) (t_d T - (i + 1)) (fun k x => x.1 = (zwi T pt yr i s k).1 ∧ x.2.1 = nI (zwi T pt yr i s k).2 ∧ x.2.2.1 = nI (i + 1 + k)) 1000 _ ?_ ?_ ⟨rfl, rfl, rfl⟩ (by omega)
  · rintro k ⟨u, v, w, y1, y2, y3, y4, y5, y6, y7⟩ hk ⟨e1, e2, e3⟩
    have e1' : u = _ := e1
    have e2' : v = _ := e2
    have e3' : w = nI (i + 1 + k) := e3
    subst e1' e2' e3'
    have hj : i + 1 + k < t_d T := by omega
    have hBi := hB k (by omega)
    have hk18 := zwh_le hV (yr := yr) hp hi hj
    have hA2 : zA (zTw T i (i + 1 + k)) (upd (upd (zct tr y7) (4 * i + 2) (nI (t_ca T (i + 1 + k)))) (4 * (i + 1 + k) + 2) (nI (t_ca T i))) := zA_t2 (zA_t2 (zA_ct hd hA))
    have h := a_glean (n := 60) (zTw_V hV hi hj) hA2 hp (yr := yr) (by omega) (by decide)
    have hz : zwi T pt yr i s (k + 1) = if (zwi T pt yr i s k).2 ≤ zwh T pt yr i (i + 1 + k) then zwi T pt yr i s k else (nI (10 * i + (i + 1 + k)), zwh T pt yr i (i + 1 + k)) := rfl
    have hq : zgl (zTw T i (i + 1 + k)) pt yr 60 = zwh T pt yr i (i + 1 + k) := rfl
    rw [hq] at h
    rw [hz]
    generalize zwi T pt yr i s k = b at hBi
    generalize zwh T pt yr i (i + 1 + k) = K at h hk18
    generalize nI (zps (zTw T i (i + 1 + k)) pt yr 60) = p at h
    have h' : p_X4_greatestLean (60 : Int32) (nI (t_d T)) (nI (t_ft T)) (nI pt) (nI (t_st T)) (nI (t_be T)) (nI yr) (upd (upd (zct tr y7) (4 * i + 2) (nI (t_ca T (i + 1 + k)))) (4 * (i + 1 + k) + 2) (nI (t_ca T i))) = some (nI K, p, nI (yr + 60)) := h
    have t1 : p_X4_trait (nI (i + 1 + k)) (2 : Int32) tr = some (nI (t_ca T (i + 1 + k))) := by rw [zi2, a_trait (T := T) (by omega) (by decide), (hA _ hj).2.2.1]
    have t2 : p_X4_trait (nI i) (2 : Int32) tr = some (nI (t_ca T i)) := by rw [zi2, a_trait (T := T) (by omega) (by decide), (hA _ hi).2.2.1]
    have hs1 : p_X5_suppose (nI i) (2 : Int32) (nI (t_ca T (i + 1 + k))) (nI (t_d T)) (nI (t_ft T)) (nI pt) (nI (t_st T)) (nI (t_be T)) (nI yr) tr y7 = _ := a_sup (w := 2) (by omega) (by decide)
    have hs2 : p_X4_setTrait (nI (i + 1 + k)) (2 : Int32) (nI (t_ca T i)) (upd (zct tr y7) (4 * i + 2) (nI (t_ca T (i + 1 + k)))) = _ := a_set (w := 2) (by omega) (by decide)
    unfold p_X5_swap_b38
    try dsimp only
    rw [if_neg (nI_ge hj (by omega)), hO, t1, zbs, hs1, zbs, t2, zbs]
    try dsimp only
    rw [hs2, zbs, h', zbs]
    try dsimp only
    rw [nI_1, zi10, pk_mul, nI_add]
    by_cases q : b.2 ≤ K
    · rw [if_pos (nI_le q (by omega)), if_pos q]
      exact ⟨_, rfl, rfl, rfl, rfl⟩
    · rw [if_neg (nI_nle' q (by omega)), if_neg q]
      exact ⟨_, rfl, rfl, rfl, rfl⟩
  · rintro ⟨u, v, w, y1, y2, y3, y4, y5, y6, y7⟩ ⟨e1, e2, e3⟩
    have e3' : w = nI (i + 1 + (t_d T - (i + 1))) := e3
    subst e3'
    unfold p_X5_swap_b38
    try dsimp only
    rw [if_pos (nI_le (by omega) (by omega))]
    exact ⟨_, rfl, e1, e2⟩
theorem a_swap (hV : zV T) (hA : zA T tr) (hp : pt < 100) (hy : yr ≤ 999) {m : Nat} (hm : m ≤ 18) (x1 x2 x3 x4 x5 x6 : Int32) (x7 : Nat → Int32) : ∃ r, z_lp (p_X5_swap_b20 (nI (t_d T)) tr (nI (t_ft T)) (nI pt) (nI (t_st T)) (nI (t_be T)) (nI yr)) 1000 ((-4 : Int32), nI m, (0 : Int32), x1, x2, x3, x4, x5, x6, x7) = some r ∧ r.1 = (zsw T pt yr m (t_d T)).1 ∧ r.2.1 = nI (zsw T pt yr m (t_d T)).2 := by
  have hd := hV.1
  refine z_lp_inv (body := (p_X5_swap_b20 (nI (t_d T)) tr (nI (t_ft T)) (nI pt) (nI (t_st T)) (nI (t_be T)) (nI yr))) (R := fun r => r.1 = (zsw T pt yr m (t_d T)).1 ∧ r.2.1 = nI (zsw T pt yr m (t_d T)).2) (t_d T) (fun i x => x.1 = (zsw T pt yr m i).1 ∧ x.2.1 = nI (zsw T pt yr m i).2 ∧ x.2.2.1 = nI i) 1000 _ ?_ ?_ ⟨rfl, rfl, rfl⟩ (by omega)
  · rintro i ⟨u, v, w, y1, y2, y3, y4, y5, y6, y7⟩ hi ⟨e1, e2, e3⟩
    have e1' : u = _ := e1
    have e2' : v = _ := e2
    have e3' : w = nI i := e3
    subst e1' e2' e3'
    obtain ⟨r, h1, h2, h3⟩ := a_swi hV hA hp hy hi (zsw_le hV (yr := yr) hp hm i (by omega)) ((zsw T pt yr m i).1, nI (zsw T pt yr m i).2, nI i, y1, y2, y3, y4, y5, y6, y7) rfl y1 y2 y3 y4 y5 y6 y7
    have hz : zsw T pt yr m (i + 1) = zwi T pt yr i (zsw T pt yr m i) (t_d T - (i + 1)) := rfl
    rw [hz]
    unfold p_X5_swap_b20
    try dsimp only
    rw [if_neg (nI_ge hi (by omega)), nI_1, h1, zbs]
    exact ⟨_, rfl, h2, h3, rfl⟩
  · rintro ⟨u, v, w, y1, y2, y3, y4, y5, y6, y7⟩ ⟨e1, e2, e3⟩
    have e3' : w = nI (t_d T) := e3
    subst e3'
    unfold p_X5_swap_b20
    try dsimp only
    rw [if_pos (nI_le (Nat.le_refl _) (by omega))]
    exact ⟨_, rfl, e1, e2⟩
theorem b_swi (hV : zV T) (hM : zM T f 0 (-4) pt yr) (hp : pt < 100) (hy : yr ≤ 999) {i : Nat} (hi : i < t_d T) {s : Int32 × Nat} (hs : s.2 ≤ 18) (O : Int32 × Int32 × Int32 × Int32 × Int32 × Int32 × (Nat → Int32)) (hO : O.2.2.1 = nI i) (x1 x2 x3 : Int32) {g : Nat → Int32} (hlo : zLo f g) : ∃ r, z_lp (p_X6_swap_b48 O (-4)) 1000 (nI s.2, s.1, nI (i + 1), x1, x2, x3, g) = some r ∧ r.2.1 = (zwi T pt yr i s (t_d T - (i + 1))).1 ∧ r.1 = nI (zwi T pt yr i s (t_d T - (i + 1))).2 ∧ zLo f r.2.2.2.2.2 := by
  have hd := hV.1
  have hB := zwi_le hV (yr := yr) hp hs hi
  have d130 : (130 : Int32) = nI 130 := rfl
  refine z_lp_inv (body := (p_X6_swap_b48 O (-4))) (R := fun r => r.2.1 = (zwi T pt yr i s (t_d T - (i + 1))).1 ∧ r.1 = nI (zwi T pt yr i s (t_d T - (i + 1))).2 ∧ zLo f r.2.2.2.2.2) (t_d T - (i + 1)) (fun k x => x.2.1 = (zwi T pt yr i s k).1 ∧ x.1 = nI (zwi T pt yr i s k).2 ∧ x.2.2.1 = nI (i + 1 + k) ∧ zLo f x.2.2.2.2.2.2) 1000 _ ?_ ?_ ⟨rfl, rfl, rfl, hlo⟩ (by omega)
  · rintro k ⟨v, u, w, y1, y2, y3, g⟩ hk ⟨e1, e2, e3, e5⟩
    have e1' : u = _ := e1
    have e2' : v = _ := e2
    have e3' : w = nI (i + 1 + k) := e3
    subst e1' e2' e3'
    have e5' : zLo f g := e5
    have hj : i + 1 + k < t_d T := by omega
    have hBi := hB k (by omega)
    have hk18 := zwh_le hV (yr := yr) hp hi hj
    have hMg := zLo_M hd e5' hM
    have g20 : z_get g 156 (20 : Int32) = some (nI (t_d T)) := by rw [← hMg.1]; exact z_get_n (i := 20) (by decide) (by decide)
    have hM1 : zM (zT2 T i (t_ca T (i + 1 + k))) (upd (zcp g 0 130) (130 + 10 + i) (nI (t_ca T (i + 1 + k)))) 130 (-4) pt yr := zM_t2 (zM_cp hd hMg) hd hi
    have hM2 : zM (zTw T i (i + 1 + k)) (upd (upd (zcp g 0 130) (130 + 10 + i) (nI (t_ca T (i + 1 + k)))) (130 + 10 + (i + 1 + k)) (nI (t_ca T i))) 130 (-4) pt yr := zM_t2 hM1 hd hj
    have c1 : z_get (zcp g 0 130) 156 ((10 : Int32) + nI (i + 1 + k)) = some (nI (t_ca T (i + 1 + k))) := by
      rw [z_get_e (0 + 10 + (i + 1 + k)) (by rw [zi10, nI_add]) (by omega) (by decide), zcp_out (by omega), (hMg.2.2.2.2.2.2 _ hj).2.2.1]
    have c2 : z_set (zcp g 0 130) 156 ((140 : Int32) + nI i) (nI (t_ca T (i + 1 + k))) = some (upd (zcp g 0 130) (130 + 10 + i) (nI (t_ca T (i + 1 + k)))) := z_set_e (130 + 10 + i) (by rw [show (140 : Int32) = nI 140 from rfl, nI_add]) (by omega) (by decide)
    have c3 : z_get (upd (zcp g 0 130) (130 + 10 + i) (nI (t_ca T (i + 1 + k)))) 156 ((10 : Int32) + nI i) = some (nI (t_ca T i)) := by
      rw [z_get_e (0 + 10 + i) (by rw [zi10, nI_add]) (by omega) (by decide), pk_un (by omega), zcp_out (by omega), (hMg.2.2.2.2.2.2 _ hi).2.2.1]
    have c4 : z_set (upd (zcp g 0 130) (130 + 10 + i) (nI (t_ca T (i + 1 + k)))) 156 ((140 : Int32) + nI (i + 1 + k)) (nI (t_ca T i)) = some (upd (upd (zcp g 0 130) (130 + 10 + i) (nI (t_ca T (i + 1 + k)))) (130 + 10 + (i + 1 + k)) (nI (t_ca T i))) := z_set_e (130 + 10 + (i + 1 + k)) (by rw [show (140 : Int32) = nI 140 from rfl, nI_add]) (by omega) (by decide)
    have hlo2 : zLo f (upd (upd (zcp g 0 130) (130 + 10 + i) (nI (t_ca T (i + 1 + k)))) (130 + 10 + (i + 1 + k)) (nI (t_ca T i))) := zLo_u (zLo_u (zLo_c e5' (by decide)) (by omega)) (by omega)
    generalize upd (upd (zcp g 0 130) (130 + 10 + i) (nI (t_ca T (i + 1 + k)))) (130 + 10 + (i + 1 + k)) (nI (t_ca T i)) = G at hM2 c4 hlo2
    have h := b_go (pg := 130) (n := 60) (zTw_V hV hi hj) (Or.inr rfl) hM2 hp (by omega) (by decide)
    have hl3 : zLo f (zyr (zcp G 130 104) 104 (zps (zTw T i (i + 1 + k)) pt yr 60) (yr + 60)) := zLo_y (zLo_c hlo2 (by decide)) (by decide)
    have hz : zwi T pt yr i s (k + 1) = if (zwi T pt yr i s k).2 ≤ zwh T pt yr i (i + 1 + k) then zwi T pt yr i s k else (nI (10 * i + (i + 1 + k)), zwh T pt yr i (i + 1 + k)) := rfl
    have hq : zgl (zTw T i (i + 1 + k)) pt yr 60 = zwh T pt yr i (i + 1 + k) := rfl
    rw [hq] at h
    rw [hz]
    generalize zwi T pt yr i s k = b at hBi
    generalize zwh T pt yr i (i + 1 + k) = K at h hk18
    generalize zyr (zcp G 130 104) 104 (zps (zTw T i (i + 1 + k)) pt yr 60) (yr + 60) = G2 at h hl3
    generalize nI (zmv (zTw T i (i + 1 + k)) pt yr 60) = a1 at h
    generalize zhs (zTw T i (i + 1 + k)) pt yr 60 = a2 at h
    have h' : p_X6_yearsGo (130 : Int32) (60 : Int32) (-4) G = some (nI K, a1, a2, G2) := h
    unfold p_X6_swap_b48
    try dsimp only
    rw [g20, zbs, if_neg (nI_ge hj (by omega)), hO, b_cp130, zbs, c1, zbs, c2, zbs, c3, zbs, c4, zbs, h', zbs]
    try dsimp only
    rw [nI_1, zi10, pk_mul, nI_add]
    by_cases q : b.2 ≤ K
    · rw [if_pos (nI_le q (by omega)), if_pos (nI_le q (by omega)), if_pos q]
      exact ⟨_, rfl, rfl, rfl, rfl, hl3⟩
    · rw [if_neg (nI_nle' q (by omega)), if_neg (nI_nle' q (by omega)), if_neg q]
      exact ⟨_, rfl, rfl, rfl, rfl, hl3⟩
  · rintro ⟨v, u, w, y1, y2, y3, g⟩ ⟨e1, e2, e3, e5⟩
    have e3' : w = nI (i + 1 + (t_d T - (i + 1))) := e3
    subst e3'
    have e5' : zLo f g := e5
    have hMg := zLo_M hd e5' hM
    have g20 : z_get g 156 (20 : Int32) = some (nI (t_d T)) := by rw [← hMg.1]; exact z_get_n (i := 20) (by decide) (by decide)
    unfold p_X6_swap_b48
    try dsimp only
    rw [g20, zbs, if_pos (nI_le (by omega) (by omega))]
    exact ⟨_, rfl, e1, e2, e5⟩
theorem b_swap (hV : zV T) (hM : zM T f 0 (-4) pt yr) (hp : pt < 100) (hy : yr ≤ 999) {m : Nat} (hm : m ≤ 18) (x1 x2 x3 : Int32) {g : Nat → Int32} (hlo : zLo f g) : ∃ r, z_lp (p_X6_swap_b30 (-4)) 1000 (nI m, (-4 : Int32), (0 : Int32), x1, x2, x3, g) = some r ∧ r.2.1 = (zsw T pt yr m (t_d T)).1 ∧ r.1 = nI (zsw T pt yr m (t_d T)).2 ∧ zLo f r.2.2.2.2.2 := by
  have hd := hV.1
  refine z_lp_inv (body := (p_X6_swap_b30 (-4))) (R := fun r => r.2.1 = (zsw T pt yr m (t_d T)).1 ∧ r.1 = nI (zsw T pt yr m (t_d T)).2 ∧ zLo f r.2.2.2.2.2) (t_d T) (fun i x => x.2.1 = (zsw T pt yr m i).1 ∧ x.1 = nI (zsw T pt yr m i).2 ∧ x.2.2.1 = nI i ∧ zLo f x.2.2.2.2.2.2) 1000 _ ?_ ?_ ⟨rfl, rfl, rfl, hlo⟩ (by omega)
  · rintro i ⟨v, u, w, y1, y2, y3, g⟩ hi ⟨e1, e2, e3, e5⟩
    have e1' : u = _ := e1
    have e2' : v = _ := e2
    have e3' : w = nI i := e3
    subst e1' e2' e3'
    have e5' : zLo f g := e5
    have hMg := zLo_M hd e5' hM
    have g20 : z_get g 156 (20 : Int32) = some (nI (t_d T)) := by rw [← hMg.1]; exact z_get_n (i := 20) (by decide) (by decide)
    obtain ⟨r, h1, h2, h3, h4⟩ := b_swi hV hM hp hy hi (zsw_le hV (yr := yr) hp hm i (by omega)) (nI (zsw T pt yr m i).2, (zsw T pt yr m i).1, nI i, y1, y2, y3, g) rfl y1 y2 y3 e5'
    have hz : zsw T pt yr m (i + 1) = zwi T pt yr i (zsw T pt yr m i) (t_d T - (i + 1)) := rfl
    rw [hz]
    unfold p_X6_swap_b30
    try dsimp only
    rw [g20, zbs, if_neg (nI_ge hi (by omega)), nI_1, h1, zbs]
    exact ⟨_, rfl, h2, h3, rfl, h4⟩
  · rintro ⟨v, u, w, y1, y2, y3, g⟩ ⟨e1, e2, e3, e5⟩
    have e3' : w = nI (t_d T) := e3
    subst e3'
    have e5' : zLo f g := e5
    have hMg := zLo_M hd e5' hM
    have g20 : z_get g 156 (20 : Int32) = some (nI (t_d T)) := by rw [← hMg.1]; exact z_get_n (i := 20) (by decide) (by decide)
    unfold p_X6_swap_b30
    try dsimp only
    rw [g20, zbs, if_pos (nI_le (Nat.le_refl _) (by omega))]
    exact ⟨_, rfl, e1, e2, e5⟩
end ZW
