/-! WHAT WAS SEEN: does a town fit it, for both -/
def zSn (n : Nat) (sy sc : Nat → Nat) (ys cs ms : Nat → Int32) : Prop := n ≤ 6 ∧ ∀ i, i < n → sy i ≤ 30 ∧ sc i < 100 ∧ ys i = nI (sy i) ∧ cs i = nI (sc i) ∧ ms (2 * i) = nI (sy i) ∧ ms (2 * i + 1) = nI (sc i)
theorem zSeen_f {sz mn : Int32} {ys cs ms : Nat → Int32} (h : zSeen sz ys cs mn ms) : ∃ (n : Nat) (sy sc : Nat → Nat), sz = nI n ∧ mn = nI n ∧ zSn n sy sc ys cs ms := by
  obtain ⟨n, hn, h1, h2, h⟩ := h
  refine ⟨n, fun i => (ys i).toNatClampNeg, fun i => (cs i).toNatClampNeg, h1, h2, hn, fun i hi => ?_⟩
  obtain ⟨y, c, hy, hc, e1, e2, e3, e4⟩ := h i hi
  try dsimp only
  rw [e1, e2, e3, e4, nI_clamp (by omega), nI_clamp (by omega)]
  exact ⟨hy, hc, rfl, rfl, rfl, rfl⟩
def zlat (sy : Nat → Nat) : Nat → Nat
  | 0 => 0
  | n + 1 => if zlat sy n < sy n then sy n else zlat sy n
theorem zlat_ge (sy : Nat → Nat) : ∀ n i, i < n → sy i ≤ zlat sy n
  | 0, i, h => absurd h (Nat.not_lt_zero i)
  | n + 1, i, h => by
    have ih := zlat_ge sy n
    rw [zlat]
    by_cases e : i = n
    · subst e
      split <;> omega
    · have := ih i (by omega)
      split <;> omega
theorem zlat_le {sy : Nat → Nat} {B : Nat} : ∀ n, (∀ i, i < n → sy i ≤ B) → zlat sy n ≤ B
  | 0, _ => Nat.zero_le _
  | n + 1, h => by
    have ih := zlat_le n (fun i hi => h i (by omega))
    have := h n (by omega)
    rw [zlat]
    split <;> omega
def zfa (n : Nat) (sy sc : Nat → Nat) (k p : Nat) : Bool := decide (¬ fa_first (fun i => decide (sy i = k ∧ ¬ sc i = p)) n < n)
theorem zfa_iff (n : Nat) (sy sc : Nat → Nat) (k p : Nat) : zfa n sy sc k p = true ↔ ∀ i, i < n → sy i = k → sc i = p := by
  unfold zfa
  rw [decide_eq_true_iff, fa_first_all]
  constructor
  · intro h i hi e
    have := of_decide_eq_false (h i hi)
    exact Decidable.not_not.mp (fun q => this ⟨e, q⟩)
  · intro h i hi
    exact decide_eq_false (fun q => q.2 (h i hi q.1))
def zFits (T : zTn) (pt yr n : Nat) (sy sc : Nat → Nat) : Bool := decide (¬ fa_first (fun k => !(zfa n sy sc k (zps T pt yr k))) (zlat sy n + 1) < zlat sy n + 1)
theorem zFits_iff (T : zTn) (pt yr n : Nat) (sy sc : Nat → Nat) : zFits T pt yr n sy sc = true ↔ ∀ i, i < n → zps T pt yr (sy i) = sc i := by
  unfold zFits
  rw [decide_eq_true_iff, fa_first_all]
  constructor
  · intro h i hi
    have := h (sy i) (by have := zlat_ge sy n i hi; omega)
    have h2 : zfa n sy sc (sy i) (zps T pt yr (sy i)) = true := by
      cases hz : zfa n sy sc (sy i) (zps T pt yr (sy i))
      · rw [hz] at this; exact absurd this (by decide)
      · rfl
    exact ((zfa_iff _ _ _ _ _).mp h2 i hi rfl).symm
  · intro h k hk
    have h2 : zfa n sy sc k (zps T pt yr k) = true := (zfa_iff _ _ _ _ _).mpr (fun i hi e => by rw [← e]; exact (h i hi).symm)
    rw [h2]; rfl
def zbI (b : Bool) : Int32 := if b = true then 1 else 0
theorem zbI_t : zbI true = 1 := rfl
theorem zbI_f : zbI false = 0 := rfl
section ZSN
variable {T : zTn} {tr f : Nat → Int32} {pt yr n : Nat} {sy sc : Nat → Nat} {ys cs ms : Nat → Int32}
theorem a_lat (hS : zSn n sy sc ys cs ms) : p_X2_latestYear (nI n) ys = some (nI (zlat sy n)) := by
  have hn := hS.1
  have run := z_lp_run (body := p_X2_latestYear_b4 (nI n) ys) (r := nI (zlat sy n)) n (fun i => (nI (zlat sy i), nI i)) 1000 ?_ ?_ (by omega)
  · unfold p_X2_latestYear
    have e0 : ((0 : Int32), (0 : Int32)) = (fun i => (nI (zlat sy i), nI i)) 0 := rfl
    rw [e0, run]
    rfl
  · intro i hi
    obtain ⟨h1, h2, h3, h4, h5, h6⟩ := hS.2 i hi
    have hl := zlat_le (B := 30) i (fun j hj => (hS.2 j (by omega)).1)
    try dsimp only
    unfold p_X2_latestYear_b4
    try dsimp only
    rw [if_neg (nI_ge hi (by omega)), z_get_n (by omega) (by decide), zbs, h3, nI_1, zlat]
    by_cases q : zlat sy i < sy i
    · rw [if_pos (nI_lt q (by omega)), if_pos q]
    · rw [if_neg (nI_nlt' q (by omega)), if_neg q]
  · try dsimp only
    unfold p_X2_latestYear_b4
    try dsimp only
    rw [if_pos (nI_le (Nat.le_refl _) (by omega))]
theorem a_fitsAt (hS : zSn n sy sc ys cs ms) {k p : Nat} (hk : k < 1000) (hp : p < 100) : p_X2_fitsAt (nI k) (nI p) (nI n) ys cs = some (zbI (zfa n sy sc k p)) := by
  have hn := hS.1
  have key := z_lp_first (body := p_X2_fitsAt_b2 (nI n) ys (nI k) cs (nI p)) (fun i => decide (sy i = k ∧ ¬ sc i = p)) n (fun i x => x = nI i) (fun _ r => r = 0) (fun _ => True) 1000 (0 : Int32)
    (fun i x hi hx hP => by
      have hP' := of_decide_eq_false hP
      obtain ⟨h1, h2, h3, h4, h5, h6⟩ := hS.2 i hi
      refine ⟨nI (i + 1), ?_, rfl⟩
      unfold p_X2_fitsAt_b2
      rw [hx, if_neg (nI_ge hi (by omega)), z_get_n (by omega) (by decide), zbs, h3, nI_1]
      by_cases e : sy i = k
      · have e2 : sc i = p := Decidable.not_not.mp (fun q => hP' ⟨e, q⟩)
        rw [if_pos (by rw [e]), z_get_n (by omega) (by decide), zbs, h4, if_pos (by rw [e2])]
      · rw [if_neg (nI_ne' e (by omega) (by omega))])
    (fun i x hi hx hP => by
      have hP' := of_decide_eq_true hP
      obtain ⟨h1, h2, h3, h4, h5, h6⟩ := hS.2 i hi
      refine ⟨0, ?_, rfl⟩
      unfold p_X2_fitsAt_b2
      rw [hx, if_neg (nI_ge hi (by omega)), z_get_n (by omega) (by decide), zbs, h3, if_pos (by rw [hP'.1]), z_get_n (by omega) (by decide), zbs, h4, if_neg (nI_ne' hP'.2 (by omega) (by omega))])
    (fun x hx => by
      refine ⟨(), ?_, trivial⟩
      unfold p_X2_fitsAt_b2
      rw [hx, if_pos (nI_le (Nat.le_refl _) (by omega))])
    rfl (by omega)
  unfold p_X2_fitsAt zfa
  rcases key with ⟨c, r, h1, h2⟩ | ⟨c, r, h1, -⟩
  · rw [h1, zbs, zel, h2, decide_eq_false (fun q => q c)]
    rfl
  · rw [h1, zbs, zer, decide_eq_true c]
    rfl
theorem a_fits (hV : zV T) (hA : zA T tr) (hp : pt < 100) (hy : yr ≤ 999) (hS : zSn n sy sc ys cs ms) : ∃ a b, p_X2_fits (nI n) ys cs (nI (t_d T)) (nI (t_ft T)) (nI pt) (nI (t_st T)) (nI (t_be T)) (nI yr) tr = some (zbI (zFits T pt yr n sy sc), a, b) := by
  have hl := zlat_le (B := 30) n (fun j hj => (hS.2 j hj).1)
  have key := z_lp_first (body := p_X2_fits_b7 (nI (zlat sy n)) (nI n) ys cs (nI (t_d T)) (nI (t_ft T)) (nI (t_st T)) (nI (t_be T)) tr) (fun k => !(zfa n sy sc k (zps T pt yr k))) (zlat sy n + 1) (fun k x => x = (nI k, nI (zps T pt yr k), nI (yr + k))) (fun _ r => r.1 = 0) (fun _ => True) 1000 ((0 : Int32), nI pt, nI yr)
    (fun k x hk hx hP => by
      have h1 := zps_lt hV (yr := yr) hp k
      have hz : zfa n sy sc k (zps T pt yr k) = true := by
        cases hz : zfa n sy sc k (zps T pt yr k)
        · rw [hz] at hP; exact absurd hP (by decide)
        · rfl
      refine ⟨(nI (k + 1), nI (zps T pt yr (k + 1)), nI (yr + (k + 1))), ?_, rfl⟩
      unfold p_X2_fits_b7
      rw [hx]
      try dsimp only
      rw [if_neg (nI_nlt (by omega) (by omega)), a_fitsAt hS (by omega) h1, zbs, hz, zbI_t, if_neg z1n0, a_year hV hA h1 (by omega), zbs, nI_1]
      rfl)
    (fun k x hk hx hP => by
      have h1 := zps_lt hV (yr := yr) hp k
      have hz : zfa n sy sc k (zps T pt yr k) = false := by
        cases hz : zfa n sy sc k (zps T pt yr k)
        · rfl
        · rw [hz] at hP; exact absurd hP (by decide)
      refine ⟨(0, nI (zps T pt yr k), nI (yr + k)), ?_, rfl⟩
      unfold p_X2_fits_b7
      rw [hx]
      try dsimp only
      rw [if_neg (nI_nlt (by omega) (by omega)), a_fitsAt hS (by omega) h1, zbs, hz, zbI_f, if_pos rfl])
    (fun x hx => by
      refine ⟨(nI (zps T pt yr (zlat sy n + 1)), nI (yr + (zlat sy n + 1))), ?_, trivial⟩
      unfold p_X2_fits_b7
      rw [hx]
      try dsimp only
      rw [if_pos (nI_lt (by omega) (by omega))])
    rfl (by omega)
  unfold p_X2_fits
  rw [a_lat hS, zbs]
  unfold zFits
  rcases key with ⟨c, r, h1, h2⟩ | ⟨c, r, h1, -⟩
  · rw [h1, zbs, zel, decide_eq_false (fun q => q c), zbI_f, ← h2]
    exact ⟨_, _, rfl⟩
  · rw [h1, zbs, zer, decide_eq_true c, zbI_t]
    exact ⟨_, _, rfl⟩
/-! the reference's -/
def zir (sy sc : Nat → Nat) (k p : Nat) (b : Bool) : Nat → Bool
  | 0 => b
  | e + 1 => zir sy sc k p b e && (decide (¬ sy e = k) || decide (p = sc e))
theorem zir_iff (sy sc : Nat → Nat) (k p : Nat) (b : Bool) : ∀ n, zir sy sc k p b n = true ↔ b = true ∧ ∀ i, i < n → sy i = k → p = sc i
  | 0 => ⟨fun h => ⟨h, fun i hi => absurd hi (Nat.not_lt_zero i)⟩, fun h => h.1⟩
  | n + 1 => by
    have ih := zir_iff sy sc k p b n
    rw [zir, Bool.and_eq_true, Bool.or_eq_true, decide_eq_true_iff, decide_eq_true_iff, ih]
    constructor
    · rintro ⟨⟨h1, h2⟩, h3⟩
      refine ⟨h1, fun i hi e => ?_⟩
      by_cases q : i = n
      · subst q
        rcases h3 with h3 | h3
        · exact absurd e h3
        · exact h3
      · exact h2 i (by omega) e
    · rintro ⟨h1, h2⟩
      refine ⟨⟨h1, fun i hi => h2 i (by omega)⟩, ?_⟩
      by_cases e : sy n = k
      · exact Or.inr (h2 n (by omega) e)
      · exact Or.inl e
def zow (T : zTn) (pt yr n : Nat) (sy sc : Nat → Nat) : Nat → Bool
  | 0 => true
  | k + 1 => zir sy sc k (zps T pt yr k) (zow T pt yr n sy sc k) n
theorem zow_iff (T : zTn) (pt yr n : Nat) (sy sc : Nat → Nat) : ∀ K, zow T pt yr n sy sc K = true ↔ ∀ i, i < n → sy i < K → zps T pt yr (sy i) = sc i
  | 0 => ⟨fun _ i _ h => absurd h (Nat.not_lt_zero _), fun _ => rfl⟩
  | K + 1 => by
    have ih := zow_iff T pt yr n sy sc K
    rw [zow, zir_iff, ih]
    constructor
    · rintro ⟨h1, h2⟩ i hi hk
      by_cases e : sy i = K
      · rw [e]; exact h2 i hi e
      · exact h1 i hi (by omega)
    · intro h
      refine ⟨fun i hi hk => h i hi (by omega), fun i hi e => ?_⟩
      have := h i hi (by omega)
      rw [e] at this
      exact this
theorem zow_fits (hS : zSn n sy sc ys cs ms) : zow T pt yr n sy sc 31 = zFits T pt yr n sy sc := by
  rw [Bool.eq_iff_iff, zow_iff, zFits_iff]
  exact ⟨fun h i hi => h i hi (by have := (hS.2 i hi).1; omega), fun h i hi _ => h i hi⟩
theorem b_inner (hS : zSn n sy sc ys cs ms) {g : Nat → Int32} {k : Nat} (hk : k < 1000) (hM : zM T g 104 (-4) pt yr) (hp : pt < 100) (b : Bool) (O : Int32 × Int32 × (Nat → Int32) × (Nat → Int32)) (h1 : O.2.1 = nI k) (h2 : O.2.2.1 = g) : z_lp (p_X6_isAsSeen_b37 (nI n) ms O) 1000 (zbI b, (0 : Int32)) = some (zbI (zir sy sc k pt b n)) := by
  have hn := hS.1
  have run := z_lp_run (body := p_X6_isAsSeen_b37 (nI n) ms O) (r := zbI (zir sy sc k pt b n)) n (fun e => (zbI (zir sy sc k pt b e), nI e)) 1000 ?_ ?_ (by omega)
  · have e0 : (zbI b, (0 : Int32)) = (fun e => (zbI (zir sy sc k pt b e), nI e)) 0 := rfl
    rw [e0, run]
  · intro e he
    obtain ⟨q1, q2, q3, q4, q5, q6⟩ := hS.2 e he
    have hpo : p_X6_pointOn (104 : Int32) g = some (nI pt) := b_point hM (by decide)
    try dsimp only
    unfold p_X6_isAsSeen_b37
    try dsimp only
    rw [if_neg (nI_ge he (by omega)), h1, h2, hpo, zbs, z_get_e (2 * e) (by rw [zi2, pk_mul]) (by omega) (by decide), zbs, q5, z_get_e (2 * e + 1) (by rw [zi2, zi1, pk_mul, nI_add]) (by omega) (by decide), zbs, q6, nI_1, zir]
    cases hz : zir sy sc k pt b e
    · rw [zbI_f, if_pos rfl]; rfl
    · rw [zbI_t, if_neg z1n0]
      by_cases c1 : sy e = k
      · rw [if_pos (by rw [c1]), decide_eq_false (fun q => q c1)]
        by_cases c2 : pt = sc e
        · rw [if_pos (by rw [c2]), decide_eq_true c2]; rfl
        · rw [if_neg (nI_ne' c2 (by omega) (by omega)), decide_eq_false c2]; rfl
      · rw [if_neg (nI_ne' c1 (by omega) (by omega)), decide_eq_true c1]; rfl
  · try dsimp only
    unfold p_X6_isAsSeen_b37
    try dsimp only
    rw [if_pos (nI_le (Nat.le_refl _) (by omega))]
theorem b_seen (hV : zV T) {g : Nat → Int32} (hM : zM T g 0 (-4) pt yr) (hp : pt < 100) (hy : yr ≤ 999) (hS : zSn n sy sc ys cs ms) {row : Nat} (hr : row ≤ 20) (pb : Nat → Int32) : ∃ (g' pb' : Nat → Int32), p_X6_isAsSeen (nI row) (-4) (nI n) g ms pb = some (zbI (zFits T pt yr n sy sc), g', pb') ∧ zLo g g' ∧ (∀ j, j < 31 → pb' (31 * row + j) = nI (zps T pt yr j)) ∧ (∀ j, j < 31 * row ∨ 31 * row + 31 ≤ j → pb' j = pb j) := by
  have hd := hV.1
  have hC := zM_cp (b := 104) hd hM
  have hlo : zLo g (zcp g 0 104) := zLo_c (zLo_r g) (by decide)
  have hcp := b_cp104 (f := g)
  generalize zcp g 0 104 = G at hC hlo hcp
  obtain ⟨r, h1, h2, h3, h4, h5⟩ := z_lp_inv (body := p_X6_isAsSeen_b11 (nI row) (nI n) ms (-4)) (R := fun r => r.1 = zbI (zow T pt yr n sy sc 31) ∧ r.2.1 = zyr G 104 (zps T pt yr 31) (yr + 31) ∧ (∀ j, j < 31 → r.2.2 (31 * row + j) = nI (zps T pt yr j)) ∧ (∀ j, j < 31 * row ∨ 31 * row + 31 ≤ j → r.2.2 j = pb j)) 31 (fun k x => x.1 = zbI (zow T pt yr n sy sc k) ∧ x.2.1 = nI k ∧ x.2.2.1 = zyr G 104 (zps T pt yr k) (yr + k) ∧ (∀ j, j < k → x.2.2.2 (31 * row + j) = nI (zps T pt yr j)) ∧ (∀ j, j < 31 * row ∨ 31 * row + 31 ≤ j → x.2.2.2 j = pb j)) 1000 ((1 : Int32), (0 : Int32), G, pb)
    (by
      rintro k ⟨u, w, g2, p2⟩ hk ⟨e1, e2, e3, e4, e5⟩
      have e1' : u = _ := e1
      have e2' : w = nI k := e2
      have e3' : g2 = _ := e3
      subst e1' e2' e3'
      have e4' : ∀ j, j < k → p2 (31 * row + j) = nI (zps T pt yr j) := e4
      have e5' : ∀ j, j < 31 * row ∨ 31 * row + 31 ≤ j → p2 j = pb j := e5
      have hpk := zps_lt hV (yr := yr) hp k
      have M1 := zyr_M hC (zps T pt yr k) (yr + k) hV.1
      have y1 : p_X6_yearOn (104 : Int32) (-4) (zyr G 104 (zps T pt yr k) (yr + k)) = some (zyr G 104 (zps T pt yr (k + 1)) (yr + (k + 1))) := b_yearI hV hC (by decide) hp (by omega)
      have hpo : p_X6_pointOn (104 : Int32) (zyr G 104 (zps T pt yr k) (yr + k)) = some (nI (zps T pt yr k)) := b_point M1 (by decide)
      refine ⟨(zbI (zow T pt yr n sy sc (k + 1)), nI (k + 1), zyr G 104 (zps T pt yr (k + 1)) (yr + (k + 1)), upd p2 (31 * row + k) (nI (zps T pt yr k))), ?_, rfl, rfl, rfl, ?_, ?_⟩
      · unfold p_X6_isAsSeen_b11
        try dsimp only
        rw [if_neg (show ¬ (30 : Int32) < nI k from nI_nlt (a := 30) (by omega) (by decide)), hpo, zbs, z_set_e (31 * row + k) (by rw [show (31 : Int32) = nI 31 from rfl, pk_mul, nI_add]) (by omega) (by decide), zbs, b_inner hS (by omega) M1 hpk _ _ rfl rfl, zbs, y1, zbs, nI_1]
        rfl
      · intro j hj
        try dsimp only
        by_cases q : j = k
        · rw [q, pk_us]
        · rw [pk_un (by omega)]; exact e4' j (by omega)
      · intro j hj
        try dsimp only
        rw [pk_un (by omega)]
        exact e5' j hj)
    (by
      rintro ⟨u, w, g2, p2⟩ ⟨e1, e2, e3, e4, e5⟩
      have e2' : w = nI 31 := e2
      subst e2'
      refine ⟨(u, g2, p2), ?_, e1, e3, e4, e5⟩
      unfold p_X6_isAsSeen_b11
      try dsimp only
      rw [if_pos (show (30 : Int32) < nI 31 by decide)])
    ⟨rfl, rfl, (zyr_same hC).symm, fun j hj => absurd hj (Nat.not_lt_zero j), fun j _ => rfl⟩ (by decide)
  refine ⟨r.2.1, r.2.2, ?_, ?_, h4, h5⟩
  · unfold p_X6_isAsSeen
    rw [hcp, zbs, h1, zbs, h2, zow_fits hS]
    cases zFits T pt yr n sy sc <;> rfl
  · rw [h3]
    exact zLo_y hlo (by decide)
end ZSN
/-- all but one place below page 104 -/
def zLx (a : Nat) (f g : Nat → Int32) : Prop := ∀ j, j < 104 → ¬ j = a → g j = f j
theorem zLx_r (a : Nat) (f : Nat → Int32) : zLx a f f := fun _ _ _ => rfl
theorem zLx_u {a : Nat} {f g g' : Nat → Int32} {x : Int32} (h : zLx a f g) (h2 : zLo (upd g a x) g') : zLx a f g' := fun j hj hn => by rw [h2 j hj, pk_un hn]; exact h j hj hn
theorem zLx_M {T : zTn} {a : Nat} {f g : Nat → Int32} {pt yr : Nat} {x : Int32} (hd : t_d T ≤ 5) (h : zLx a f g) (hM : zM T (upd f a x) 0 (-4) pt yr) : zM T (upd g a x) 0 (-4) pt yr := zM_congr hd hM (fun j hj => by
  by_cases e : 0 + j = a
  · rw [e, pk_us, pk_us]
  · rw [pk_un e, pk_un e]; exact h _ (by omega) e)
theorem zLx_end {a : Nat} {f g : Nat → Int32} (h : zLx a f g) : zLo f (upd g a (f a)) := fun j hj => by
  by_cases e : j = a
  · rw [e, pk_us]
  · rw [pk_un e]; exact h j hj e
/-- bits of those that fit -/
def zbt (P : Nat → Bool) (lo : Nat) : Nat → Int32
  | 0 => 0
  | k + 1 => if P (lo + k) = true then zbt P lo k ||| ((1 : Int32) <<< (nI (lo + k) &&& 31)) else zbt P lo k
