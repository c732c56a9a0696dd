/-! LOWEST TERMS: both by Euclid -/
theorem lg_z {x : Int64} : lg_cmp x 0 = 0 ↔ x = 0 := by
  unfold lg_cmp
  by_cases h : x > 0
  · rw [if_pos h]
    constructor
    · intro q; exact absurd q (by decide)
    · intro q; rw [q] at h; exact absurd h (fun z => Int64.lt_irrefl z)
  · rw [if_neg h]
    by_cases e : x = 0
    · rw [if_pos e]; exact ⟨fun _ => e, fun _ => rfl⟩
    · rw [if_neg e]; exact ⟨fun q => absurd q (by decide), fun q => absurd q e⟩
theorem lN_z {n : Nat} (h : n < 2 ^ 63) : lN n = 0 ↔ n = 0 := pk_lEQ (b := 0) h (by decide)
/-- one step of both -/
theorem gcd_s6 {a b : Nat} (ha : a < 2 ^ 63) (hb : b < 2 ^ 63) : p_X6_lowest_b6 (lN a, lN b) = if b = 0 then some (.inl (lN a)) else some (.inr (lN b, lN (a % b))) := by
  unfold p_X6_lowest_b6
  try dsimp only
  by_cases c : b = 0
  · rw [if_pos c, if_pos (lg_z.mpr ((lN_z hb).mpr c))]
  · rw [if_neg c, if_neg (fun q => c ((lN_z hb).mp (lg_z.mp q)))]
    unfold z_remL
    rw [if_neg (fun q => c ((lN_z hb).mp q)), zbs, pk_lRem ha (by omega) hb]
theorem gcd_s5 {a b s : Nat} (ha : a < 2 ^ 63) (hb : b < 2 ^ 63) (hs : s < 100) : p_X5_commonDivisor_b9 (lN a, lN b, nI s) = if b = 0 then some (.inl (lN a)) else some (.inr (lN b, lN (a % b), nI (s + 1))) := by
  unfold p_X5_commonDivisor_b9
  try dsimp only
  rw [if_neg (show ¬ (100 : Int32) ≤ nI s from nI_ge (b := 100) hs (by decide))]
  by_cases c : b = 0
  · rw [if_pos c, if_pos (lg_z.mpr ((lN_z hb).mpr c))]
  · rw [if_neg c, if_neg (fun q => c ((lN_z hb).mp (lg_z.mp q)))]
    unfold z_remL
    rw [if_neg (fun q => c ((lN_z hb).mp q)), zbs, pk_lRem ha (by omega) hb, nI_1]
theorem gcd_both : ∀ (k a b s m n : Nat), a < 2 ^ 63 → b < 2 ^ 63 → 0 < a + b → b < 2 ^ k → s + 2 * k < 100 → 2 * k < m → 2 * k < n → ∃ g, 0 < g ∧ g < 2 ^ 63 ∧ z_lp p_X6_lowest_b6 m (lN a, lN b) = some (lN g) ∧ z_lp p_X5_commonDivisor_b9 n (lN a, lN b, nI s) = some (lN g)
  | 0, a, b, s, m, n, ha, hb, h0, hk, hs, hm, hn => by
    obtain ⟨m', rfl⟩ : ∃ m', m = m' + 1 := ⟨m - 1, by omega⟩
    obtain ⟨n', rfl⟩ : ∃ n', n = n' + 1 := ⟨n - 1, by omega⟩
    have b0 : b = 0 := by simpa using hk
    refine ⟨a, by omega, ha, ?_, ?_⟩
    · rw [z_lp, gcd_s6 ha hb, if_pos b0]
    · rw [z_lp, gcd_s5 ha hb (by omega), if_pos b0]
  | k + 1, a, b, s, m, n, ha, hb, h0, hk, hs, hm, hn => by
    obtain ⟨m', rfl⟩ : ∃ m', m = m' + 1 + 1 := ⟨m - 2, by omega⟩
    obtain ⟨n', rfl⟩ : ∃ n', n = n' + 1 + 1 := ⟨n - 2, by omega⟩
    by_cases b0 : b = 0
    · refine ⟨a, by omega, ha, ?_, ?_⟩
      · rw [z_lp, gcd_s6 ha hb, if_pos b0]
      · rw [z_lp, gcd_s5 ha hb (by omega), if_pos b0]
    · have r1 : a % b < b := Nat.mod_lt _ (by omega)
      by_cases r0 : a % b = 0
      · refine ⟨b, by omega, hb, ?_, ?_⟩
        · rw [z_lp, gcd_s6 ha hb, if_neg b0]
          show z_lp p_X6_lowest_b6 (m' + 1) (lN b, lN (a % b)) = _
          rw [z_lp, gcd_s6 hb (by omega), if_pos r0]
        · rw [z_lp, gcd_s5 ha hb (by omega), if_neg b0]
          show z_lp p_X5_commonDivisor_b9 (n' + 1) (lN b, lN (a % b), nI (s + 1)) = _
          rw [z_lp, gcd_s5 hb (by omega) (by omega), if_pos r0]
      · have r2 : b % (a % b) < a % b := Nat.mod_lt _ (by omega)
        have r3 : b % (a % b) + (a % b) ≤ b := by
          have d := Nat.div_add_mod b (a % b)
          have q : 1 ≤ b / (a % b) := Nat.div_pos (by omega) (by omega)
          have e : (a % b) * 1 ≤ (a % b) * (b / (a % b)) := Nat.mul_le_mul_left _ q
          omega
        have r4 : b % (a % b) < 2 ^ k := by
          have : 2 ^ (k + 1) = 2 * 2 ^ k := by rw [Nat.pow_succ]; omega
          omega
        obtain ⟨g, g0, g1, h6, h5⟩ := gcd_both k (a % b) (b % (a % b)) (s + 2) m' n' (by omega) (by omega) (by omega) r4 (by omega) (by omega) (by omega)
        refine ⟨g, g0, g1, ?_, ?_⟩
        · rw [z_lp, gcd_s6 ha hb, if_neg b0]
          show z_lp p_X6_lowest_b6 (m' + 1) (lN b, lN (a % b)) = _
          rw [z_lp, gcd_s6 hb (by omega), if_neg r0]
          exact h6
        · rw [z_lp, gcd_s5 ha hb (by omega), if_neg b0]
          show z_lp p_X5_commonDivisor_b9 (n' + 1) (lN b, lN (a % b), nI (s + 1)) = _
          rw [z_lp, gcd_s5 hb (by omega) (by omega), if_neg r0]
          exact h5
/-- part and lowest -/
theorem part_low {a b : Nat} (ha : a < 2 ^ 63) (hb : b < 2 ^ 40) (h0 : 0 < b) (w : Int32) : ∃ r, p_X5_part (lN a) (lN b) w = some r ∧ p_X6_lowest (lN a) (lN b) w = some r := by
  have hb' : b < 2 ^ 63 := by omega
  obtain ⟨g, g0, g1, h6, h5⟩ := gcd_both 40 a b 0 1000 1000 ha hb' (by omega) hb (by decide) (by decide) (by decide)
  have gz : ¬ lN g = 0 := fun q => by have := (lN_z g1).mp q; omega
  have h5' : z_lp p_X5_commonDivisor_b9 1000 (lN a, lN b, (0 : Int32)) = some (lN g) := h5
  unfold p_X5_part p_X5_commonDivisor p_X6_lowest
  rw [h5', h6, zbs, zbs, zbs, if_neg (fun q => gz (lg_z.mp q))]
  unfold z_divL
  rw [if_neg gz, if_neg gz, zbs, zbs]
  by_cases c : w = 0
  · rw [if_pos c]; exact ⟨_, rfl, rfl⟩
  · rw [if_neg c]; exact ⟨_, rfl, rfl⟩
/-! TURN, SHARE -/
theorem zhc_inj {a b : Nat} (ha : a ≤ 5) (hb : b ≤ 5) : zhc a = zhc b ↔ a = b := by
  constructor
  · intro q
    by_cases h : b = 0
    · rw [h] at q ⊢
      exact (zhc_m4 (by omega)).mp q
    · rw [zhc_s (show 0 < b by omega)] at q
      have := (zhc_i ha (show b - 1 < 5 by omega)).mp q
      omega
  · intro q; rw [q]
section ZTS
variable {T : zTn} {tr f : Nat → Int32} {pt yr : Nat}
def zturn (T : zTn) (pt yr i : Nat) : Bool := decide (¬ zho T (zps T pt yr (i + 1)) (yr + (i + 1)) = zho T pt yr)
theorem a_turn (hV : zV T) (hA : zA T tr) (hp : pt < 100) (hy : yr ≤ 999) (x7 : Nat → Int32) : ∃ j, p_X5_turn (nI (t_d T)) (nI (t_ft T)) (nI pt) (nI (t_st T)) (nI (t_be T)) (nI yr) tr x7 = some (zrs1 (fa_first (zturn T pt yr) 60) 60, j) := by
  have hd := hV.1
  have hA' : zA T (zct tr x7) := zA_ct hd hA
  have hle0 := zho_le T pt yr
  have one : ∀ i, i < 60 → p_X5_turn_b21 (nI (t_d T), nI (t_ft T), nI pt, nI (t_st T), nI (t_be T), nI yr, zct tr x7) (zhc (zho T pt yr)) (nI (i + 1), nI (zps T pt yr i), nI (yr + i)) = if zturn T pt yr i = true then some (.inl (.inl (nI (i + 1), nI (t_d T), nI (t_ft T), nI (zps T pt yr (i + 1)), nI (t_st T), nI (t_be T), nI (yr + (i + 1)), zct tr x7))) else some (.inr (nI (i + 1 + 1), nI (zps T pt yr (i + 1)), nI (yr + (i + 1)))) := by
    intro i hi
    have h1 := zps_lt hV (yr := yr) hp i
    have h2 := zps_lt hV (yr := yr) hp (i + 1)
    have hle := zho_le T (zps T pt yr (i + 1)) (yr + (i + 1))
    unfold p_X5_turn_b21
    try dsimp only
    rw [if_neg (show ¬ (60 : Int32) < nI (i + 1) from nI_nlt (a := 60) (by omega) (by decide)), a_year hV hA' h1 (by omega), zbs]
    try dsimp only
    have e1 : znp T (zps T pt yr i) (zho T (zps T pt yr i) (yr + i)) = zps T pt yr (i + 1) := rfl
    have e2 : yr + i + 1 = yr + (i + 1) := by omega
    rw [e1, e2, a_holder hV hA' h2 (by omega), zbs, nI_1]
    by_cases q : zho T (zps T pt yr (i + 1)) (yr + (i + 1)) = zho T pt yr
    · rw [if_pos ((zhc_inj (by omega) (by omega)).mpr q), if_neg (show ¬ zturn T pt yr i = true from fun z => of_decide_eq_true z q)]
    · rw [if_neg (fun z => q ((zhc_inj (by omega) (by omega)).mp z)), if_pos (show zturn T pt yr i = true from decide_eq_true q)]
  have key := z_lp_first (body := p_X5_turn_b21 (nI (t_d T), nI (t_ft T), nI pt, nI (t_st T), nI (t_be T), nI yr, zct tr x7) (zhc (zho T pt yr))) (zturn T pt yr) 60 (fun i x => x = (nI (i + 1), nI (zps T pt yr i), nI (yr + i))) (fun i r => r.1 = nI (i + 1)) (fun _ => True) 1000 ((1 : Int32), nI pt, nI yr)
    (fun i x hi hx hP => by
      have h := one i hi
      rw [if_neg (by rw [hP]; decide), ← hx] at h
      exact ⟨_, h, rfl⟩)
    (fun i x hi hx hP => by
      have h := one i hi
      rw [if_pos hP, ← hx] at h
      exact ⟨_, h, rfl⟩)
    (fun x hx => by
      rw [hx]
      refine ⟨(nI (zps T pt yr 60), nI (yr + 60)), ?_, trivial⟩
      unfold p_X5_turn_b21
      try dsimp only
      rw [if_pos (show (60 : Int32) < nI (60 + 1) by decide)])
    rfl (by decide)
  unfold p_X5_turn p_X4_copyFrom
  rw [zbs]
  try dsimp only
  rw [a_holder hV hA hp (by omega), zbs]
  rcases key with ⟨c, r, h1, h2⟩ | ⟨c, r, h1, -⟩
  · have h1' := h1
    unfold zct at h1'
    rw [h1', zbs, zel, zrs1, if_pos c]
    exact ⟨r.2, by rw [← h2]⟩
  · have h1' := h1
    unfold zct at h1'
    rw [h1', zbs, zer, zrs1, if_neg c]
    exact ⟨_, rfl⟩
theorem b_turn (hV : zV T) (hM : zM T f 0 (-4) pt yr) (hp : pt < 100) (hy : yr ≤ 999) : ∃ j, p_X6_turn (-4) f = some (zrs1 (fa_first (zturn T pt yr) 60) 60, j) ∧ zLo f j := by
  have hd := hV.1
  have hC := zM_cp (b := 104) hV.1 hM
  have hlo : zLo f (zcp f 0 104) := zLo_c (zLo_r f) (by decide)
  have hle0 := zho_le T pt yr
  have h00 : p_X6_holderOn (0 : Int32) (-4) f = some (zhc (zho T pt yr)) := b_holder hV hM (by decide) hp (by omega)
  have hcp := b_cp104 (f := f)
  generalize zcp f 0 104 = g at hC hlo hcp
  have one : ∀ i, i < 60 → p_X6_turn_b15 (-4) (zhc (zho T pt yr)) (nI (i + 1), zyr g 104 (zps T pt yr i) (yr + i)) = if zturn T pt yr i = true then some (.inl (.inl (nI (i + 1), zyr g 104 (zps T pt yr (i + 1)) (yr + (i + 1))))) else some (.inr (nI (i + 1 + 1), zyr g 104 (zps T pt yr (i + 1)) (yr + (i + 1)))) := by
    intro i hi
    have h2 := zps_lt hV (yr := yr) hp (i + 1)
    have hle := zho_le T (zps T pt yr (i + 1)) (yr + (i + 1))
    have M2 := zyr_M hC (zps T pt yr (i + 1)) (yr + (i + 1)) hV.1
    have e1 : p_X6_yearOn (104 : Int32) (-4) (zyr g 104 (zps T pt yr i) (yr + i)) = some (zyr g 104 (zps T pt yr (i + 1)) (yr + (i + 1))) := b_yearI hV hC (by decide) hp (by omega)
    have e2 : p_X6_holderOn (104 : Int32) (-4) (zyr g 104 (zps T pt yr (i + 1)) (yr + (i + 1))) = some (zhc (zho T (zps T pt yr (i + 1)) (yr + (i + 1)))) := b_holder hV M2 (by decide) h2 (by omega)
    unfold p_X6_turn_b15
    try dsimp only
    rw [if_neg (show ¬ (60 : Int32) < nI (i + 1) from nI_nlt (a := 60) (by omega) (by decide)), e1, zbs, e2, zbs, nI_1]
    by_cases q : zho T (zps T pt yr (i + 1)) (yr + (i + 1)) = zho T pt yr
    · rw [if_pos ((zhc_inj (by omega) (by omega)).mpr q), if_neg (show ¬ zturn T pt yr i = true from fun z => of_decide_eq_true z q)]
    · rw [if_neg (fun z => q ((zhc_inj (by omega) (by omega)).mp z)), if_pos (show zturn T pt yr i = true from decide_eq_true q)]
  have key := z_lp_first (body := p_X6_turn_b15 (-4) (zhc (zho T pt yr))) (zturn T pt yr) 60 (fun i x => x = (nI (i + 1), zyr g 104 (zps T pt yr i) (yr + i))) (fun i r => r.1 = nI (i + 1) ∧ zLo f r.2) (fun r => zLo f r) 1000 ((1 : Int32), g)
    (fun i x hi hx hP => by
      have h := one i hi
      rw [if_neg (by rw [hP]; decide), ← hx] at h
      exact ⟨_, h, rfl⟩)
    (fun i x hi hx hP => by
      have h := one i hi
      rw [if_pos hP, ← hx] at h
      exact ⟨_, h, rfl, zLo_y hlo (by decide)⟩)
    (fun x hx => by
      rw [hx]
      refine ⟨zyr g 104 (zps T pt yr 60) (yr + 60), ?_, zLo_y hlo (by decide)⟩
      unfold p_X6_turn_b15
      try dsimp only
      rw [if_pos (show (60 : Int32) < nI (60 + 1) by decide)])
    (by
      show ((1 : Int32), g) = (nI (0 + 1), zyr g 104 pt yr)
      rw [zyr_same hC]; rfl) (by decide)
  unfold p_X6_turn
  rw [h00, zbs, hcp, zbs]
  rcases key with ⟨c, r, h1, h2, h3⟩ | ⟨c, r, h1, h3⟩
  · rw [h1, zbs, zel, zrs1, if_pos c]
    exact ⟨r.2, by rw [← h2], h3⟩
  · rw [h1, zbs, zer, zrs1, if_neg c]
    exact ⟨_, rfl, h3⟩
theorem b_share (hV : zV T) {g : Nat → Int32} (hC : zM T g 104 (-4) pt yr) (hp : pt < 100) (hy : yr ≤ 999) {j n : Nat} (hj : j < 5) (hn : n ≤ 60) : z_lp (p_X6_share_b47 (nI n) (-4) (nI j)) 1000 ((0 : Int32), (0 : Int32), g) = some (nI (zhd T pt yr j n), zyr g 104 (zps T pt yr n) (yr + n)) := by
  have hd := hV.1
  have run := z_lp_run (body := p_X6_share_b47 (nI n) (-4) (nI j)) (r := (nI (zhd T pt yr j n), zyr g 104 (zps T pt yr n) (yr + n))) n (fun i => (nI (zhd T pt yr j i), nI i, zyr g 104 (zps T pt yr i) (yr + i))) 1000 ?_ ?_ (by omega)
  · have e0 : ((0 : Int32), (0 : Int32), g) = (fun i => (nI (zhd T pt yr j i), nI i, zyr g 104 (zps T pt yr i) (yr + i))) 0 := by
      show _ = (nI 0, nI 0, zyr g 104 pt yr)
      rw [zyr_same hC]; rfl
    rw [e0, run]
  · intro i hi
    have h1 := zps_lt hV (yr := yr) hp i
    have hle := zho_le T (zps T pt yr i) (yr + i)
    have M1 := zyr_M hC (zps T pt yr i) (yr + i) hV.1
    have e1 : p_X6_yearOn (104 : Int32) (-4) (zyr g 104 (zps T pt yr i) (yr + i)) = some (zyr g 104 (zps T pt yr (i + 1)) (yr + (i + 1))) := b_yearI hV hC (by decide) hp (by omega)
    have e2 : p_X6_holderOn (104 : Int32) (-4) (zyr g 104 (zps T pt yr i) (yr + i)) = some (zhc (zho T (zps T pt yr i) (yr + i))) := b_holder hV M1 (by decide) h1 (by omega)
    try dsimp only
    unfold p_X6_share_b47
    try dsimp only
    rw [if_neg (nI_ge hi (by omega)), e2, zbs, e1, zbs, nI_1, zhd]
    by_cases q : zho T (zps T pt yr i) (yr + i) = j + 1
    · rw [if_pos ((zhc_i (by omega) hj).mpr q), if_pos q, nI_1]
    · rw [if_neg (fun z => q ((zhc_i (by omega) hj).mp z)), if_neg q, zadd0]
  · try dsimp only
    unfold p_X6_share_b47
    try dsimp only
    rw [if_pos (nI_le (Nat.le_refl _) (by omega))]
end ZTS
