/-! READ: removals from a sheet, on both sides -/
theorem z_lp_st {σ ρ : Type} {b : σ → Option (ρ ⊕ σ)} {x y : σ} {n : Nat} (h : b x = some (.inr y)) : z_lp b (n + 1) x = z_lp b n y := by rw [z_lp, h]
theorem z_lp_en {σ ρ : Type} {b : σ → Option (ρ ⊕ σ)} {x : σ} {r : ρ} {n : Nat} (h : b x = some (.inl r)) : z_lp b (n + 1) x = some r := by rw [z_lp, h]
theorem z_lp_mono {σ ρ : Type} {b : σ → Option (ρ ⊕ σ)} {r : ρ} : ∀ (n m : Nat) (x : σ), z_lp b n x = some r → n ≤ m → z_lp b m x = some r
  | 0, _, _, h, _ => by cases h
  | n + 1, m, x, h, hm => by
    obtain ⟨k, rfl⟩ : ∃ k, m = k + 1 := ⟨m - 1, by omega⟩
    rw [z_lp] at h
    rw [z_lp]
    cases hb : b x with
    | none => rw [hb] at h; cases h
    | some o =>
      rw [hb] at h
      cases o with
      | inl r' => exact h
      | inr y => exact z_lp_mono n k y h (by omega)
theorem z_lp_bis2 {σ1 ρ1 σ2 ρ2 : Type} {b1 : σ1 → Option (ρ1 ⊕ σ1)} {b2 : σ2 → Option (ρ2 ⊕ σ2)} {R : ρ1 → ρ2 → Prop} (I : Nat → σ1 → σ2 → Prop) (h : ∀ n x y, I n x y → (∃ r1 r2, b1 x = some (.inl r1) ∧ z_lp b2 3 y = some r2 ∧ R r1 r2) ∨ (∃ m x' y1 y', m < n ∧ b1 x = some (.inr x') ∧ b2 y = some (.inr y1) ∧ b2 y1 = some (.inr y') ∧ I m x' y')) : ∀ (N n : Nat) (x : σ1) (y : σ2) (f1 f2 : Nat), n ≤ N → I n x y → N < f1 → 2 * N + 3 ≤ f2 → ∃ r1 r2, z_lp b1 f1 x = some r1 ∧ z_lp b2 f2 y = some r2 ∧ R r1 r2
  | 0, n, x, y, f1, f2, hn, hI, h1, h2 => by
    obtain ⟨m1, rfl⟩ : ∃ m, f1 = m + 1 := ⟨f1 - 1, by omega⟩
    rcases h n x y hI with ⟨r1, r2, q1, q2, q3⟩ | ⟨m, x', y1, y', hm, -⟩
    · exact ⟨r1, r2, z_lp_en q1, z_lp_mono 3 f2 y q2 (by omega), q3⟩
    · exact absurd hm (by omega)
  | N + 1, n, x, y, f1, f2, hn, hI, h1, h2 => by
    obtain ⟨m1, rfl⟩ : ∃ m, f1 = m + 1 := ⟨f1 - 1, by omega⟩
    obtain ⟨m2, rfl⟩ : ∃ m, f2 = m + 2 := ⟨f2 - 2, by omega⟩
    rcases h n x y hI with ⟨r1, r2, q1, q2, q3⟩ | ⟨m, x', y1, y', hm, q1, q2, q2', q3⟩
    · exact ⟨r1, r2, z_lp_en q1, z_lp_mono 3 _ y q2 (by omega), q3⟩
    · obtain ⟨r1, r2, k1, k2, k3⟩ := z_lp_bis2 I h N m x' y' m1 m2 (by omega) q3 (by omega) (by omega)
      exact ⟨r1, r2, by rw [z_lp_st q1]; exact k1, by rw [z_lp_st q2, z_lp_st q2']; exact k2, k3⟩
/-- the fault of a place, for both -/
theorem rd_fault {lanes lens : Nat → Int32} {k l' : Nat} (hk : k ≤ 3) (hl : l' ≤ 2) {lane size : Int32} (h : (lane = -1 ∧ lanes k = -4) ∨ ∃ t n : Nat, t < 3 ∧ n ≤ 40 ∧ lane = nI t ∧ lanes k = nI t ∧ size = nI n ∧ lens k = nI n) (f : Int32) (i : Nat) (hi : i ≤ 41) (hf : i = 0 ∨ ∃ f0, f0 < 40 ∧ f = nI f0) : ∃ b : Nat, b ≤ 3 ∧ p_X1_faultOf (nI l') (f + nI i) lane size = some (nI b) ∧ (if lanes k = (-4 : Int32) then some (1 : Int32) else (z_get lanes 4 (nI k)).bind (fun w2_ => if w2_ = nI l' then (z_get lens 4 (nI k)).bind (fun w3_ => (p_X6_in (f.toInt64 + (nI i).toInt64) (0 : Int64) ((w3_ - (1 : Int32)).toInt64)).bind (fun w4_ => if w4_ = 0 then some (2 : Int32) else some (0 : Int32))) else some (3 : Int32))) = some (nI b) ∧ (b = 0 → ∃ f0, f = nI f0 ∧ f0 + i < 40) := by
  rcases h with ⟨h1, h2⟩ | ⟨t, n, ht, hn, h1, h2, h3, h4⟩
  · refine ⟨1, by decide, ?_, ?_, fun q => absurd q (by decide)⟩
    · rw [h1, a_fo3]; try rfl
    · rw [h2, if_pos rfl]; try rfl
  · rw [h2, if_neg (nI_m4 (by omega)), z_get_n (by omega) (by decide), zbs, h2, z_get_n (by omega) (by decide), zbs, h4, h1, h3]
    by_cases e : nI t = nI l'
    · rw [if_pos e, ← e]
      have hx : f.toInt64 + (nI i).toInt64 = (f + nI i).toInt64 := by
        rcases hf with rfl | ⟨f0, hf0, rfl⟩
        · rw [show f + nI 0 = f from Int32.add_zero f]
          exact Int64.add_zero _
        · rw [nI_add]
          apply Int64.toInt_inj.mp
          rw [Int64.toInt_add, zx_l, zx_l, zx_l, nI_toInt (by omega), nI_toInt (by omega), nI_toInt (by omega), Int.bmod_eq_of_le (by omega) (by omega)]
          omega
      rw [hx]
      rcases arg_idx (f + nI i) hn with ⟨j, hj, ej, p1, p2, p3⟩ | ⟨p1, p2⟩
      · refine ⟨0, by decide, ?_, ?_, fun _ => ?_⟩
        · rw [a_fo1 ht ⟨p1, p2⟩]; try rfl
        · rw [p3, zbs, if_neg z1n0]; try rfl
        · rcases hf with rfl | ⟨f0, hf0, rfl⟩
          · exact ⟨j, by rw [← ej]; exact (Int32.add_zero f).symm, by omega⟩
          · refine ⟨f0, rfl, ?_⟩
            rw [nI_add, nI_eq (by omega) (by omega)] at ej
            omega
      · refine ⟨2, by decide, ?_, ?_, fun q => absurd q (by decide)⟩
        · rw [a_fo2 ht p1]; try rfl
        · rw [p2, zbs, if_pos rfl]; try rfl
    · refine ⟨3, by decide, ?_, ?_, fun q => absurd q (by decide)⟩
      · rw [a_fo4 ht e]; try rfl
      · rw [if_neg e]; try rfl
/-- one removal, for both -/
theorem rd_rem {T : zTn} {tr g : Nat → Int32} {pt yr : Nat} (hW : zW0 T pt yr) (hA : zA T tr) (hM : zM T g 0 (-4) pt yr) (hy : ¬ yr = 999) (u v : Int32) : (∃ (i c : Nat), i < t_d T ∧ c < 100 ∧ p_X5_removeDraw u v (nI (t_d T)) (nI (t_ft T)) (nI pt) (nI (t_st T)) (nI (t_be T)) (nI yr) tr = some (1, nI (znp (zT2 T i c) pt (zho (zT2 T i c) pt yr)), nI (yr + 1), upd tr (4 * i + 2) (nI c)) ∧ ∃ w, p_X6_alters u (2 : Int32) v g = some (nI w, upd g (0 + 10 + i) (nI c)) ∧ w < 100) ∨ (p_X5_removeDraw u v (nI (t_d T)) (nI (t_ft T)) (nI pt) (nI (t_st T)) (nI (t_be T)) (nI yr) tr = some (0, nI pt, nI yr, tr) ∧ p_X6_alters u (2 : Int32) v g = some (-1, g)) := by
  obtain ⟨hV, hp, hy9, hw⟩ := hW
  have hd := hV.1
  rcases arg_draw u hd hM.1 with ⟨i, hi, rfl, h1, h2⟩ | ⟨h1, h2, -⟩
  · rcases arg_cell v with ⟨c, hc, rfl, h3, h4⟩ | ⟨h3, h4, -⟩
    · left
      have hb : p_X6_puts 1 (((5 : Int32) * (2 : Int32)) + nI i) (nI c) (0 : Int32) g = some (g (0 + 10 + i), upd g (0 + 10 + i) (nI c)) := by
        rw [show ((5 : Int32) * (2 : Int32)) + nI i = nI (0 + 10 + i) by rw [show ((5 : Int32) * (2 : Int32)) = nI 10 from rfl, nI_add], b_puts (by omega), zadd0, zsub0]
      refine ⟨i, c, hi, hc, ?_, t_ca T i, ?_, (hV.2.2.2.2 i hi).2.2.1⟩
      · have hyr := a_year (zV_t2 (i := i) hV hc) (zA_t2 (i := i) (v := c) hA) hp (yr := yr) (by omega)
        have hyr' : p_X4_passYear (nI (t_d T)) (nI (t_ft T)) (nI pt) (nI (t_st T)) (nI (t_be T)) (nI yr) (upd tr (4 * i + 2) (nI c)) = _ := hyr
        unfold p_X5_removeDraw
        rw [h1, zbs, if_neg z1n0, h3, zbs, if_neg z1n0, if_pos (show nI yr < (999 : Int32) from nI_lt (b := 999) (by omega) (by decide))]
        show (p_X4_setTrait (nI i) (nI 2) (nI c) tr).bind _ = _
        rw [a_set (by omega) (by decide), zbs, hyr']
        try rfl
      · unfold p_X6_alters
        rw [if_neg (show ¬ (2 : Int32) = 0 by decide), if_neg (show ¬ (2 : Int32) = 1 by decide), if_pos rfl, h4, zbs, zbs, h2, zbs, if_neg z1n0, if_neg z1n0, hb, zbs, (hM.2.2.2.2.2.2 i hi).2.2.1]
    · right
      refine ⟨?_, ?_⟩
      · unfold p_X5_removeDraw; rw [h1, zbs, if_neg z1n0, h3, zbs, if_pos rfl]
      · unfold p_X6_alters
        rw [if_neg (show ¬ (2 : Int32) = 0 by decide), if_neg (show ¬ (2 : Int32) = 1 by decide), if_pos rfl, h4, zbs, zbs, h2, zbs, if_neg z1n0, if_pos rfl, b_puts0]
        try rfl
  · right
    refine ⟨?_, ?_⟩
    · unfold p_X5_removeDraw; rw [h1, zbs, if_pos rfl]
    · unfold p_X6_alters
      rw [if_neg (show ¬ (2 : Int32) = 0 by decide), if_neg (show ¬ (2 : Int32) = 1 by decide), if_pos rfl]
      rcases arg_cell v with ⟨c, hc, rfl, h3, h4⟩ | ⟨h3, h4, -⟩
      · rw [h4, zbs, zbs, h2, zbs, if_pos rfl, b_puts0]
        try rfl
      · rw [h4, zbs, zbs, h2, zbs, if_pos rfl, b_puts0]
        try rfl
theorem rd_rem9 {d : Nat} {tr : Nat → Int32} {ft po st be : Int32} (hd : d ≤ 5) (u v : Int32) : p_X5_removeDraw u v (nI d) ft po st be (nI 999) tr = some (0, po, nI 999, tr) := by
  unfold p_X5_removeDraw
  have h1 : p_X4_hasDraw u (nI d) = some 0 ∨ p_X4_hasDraw u (nI d) = some 1 := by
    unfold p_X4_hasDraw
    by_cases c1 : u < 0
    · rw [if_pos c1]; exact Or.inl rfl
    · rw [if_neg c1]
      by_cases c2 : nI d ≤ u
      · rw [if_pos c2]; exact Or.inl rfl
      · rw [if_neg c2]; exact Or.inr rfl
  rcases h1 with h1 | h1
  · rw [h1, zbs, if_pos rfl]
  · rw [h1, zbs, if_neg z1n0]
    rcases arg_cell v with ⟨c, hc, rfl, h3, h4⟩ | ⟨h3, h4, -⟩
    · rw [h3, zbs, if_neg z1n0, if_neg (show ¬ nI 999 < (999 : Int32) by decide)]
    · rw [h3, zbs, if_pos rfl]
def zRd (T : zTn) (st : Nat → Int32) (rf l1 l2 l3 l4 l5 l6 : Int32) (l7 : Nat → Int32) (tn : Int32) (r1 : (Int32 × Int32 × Int32 × Int32 × Int32 × Int32 × Int32 × Int32 × (Nat → Int32) × Int32 × Int32 × Int32 × Int32 × Int32 × Int32 × (Nat → Int32)) ⊕ (Int32 × Int32 × Int32 × Int32 × (Nat → Int32))) (r2 : (Int32 × Int32 × (Nat → Int32)) ⊕ (Int32 × Int32 × (Nat → Int32))) : Prop :=
  (∃ (w b1 b2 b3 b4 b5 b6 : Int32) (b7 g : Nat → Int32), r1 = .inl (w, rf, l1, l2, l3, l4, l5, l6, l7, b1, b2, b3, b4, b5, b6, b7) ∧ r2 = .inl (w, tn, g) ∧ ∀ j, j < 78 → g j = st j) ∨
  (∃ (c b : Nat) (T' : zTn) (p y : Nat) (tr' g : Nat → Int32), r1 = .inr (nI c, nI b, nI p, nI y, tr') ∧ r2 = .inr (nI b, nI c, g) ∧ zW0 T' p y ∧ t_d T' = t_d T ∧ t_ft T' = t_ft T ∧ t_st T' = t_st T ∧ t_be T' = t_be T ∧ zA T' tr' ∧ zM T' g 0 (-4) p y ∧ ∀ j, 26 ≤ j → j < 78 → g j = st j)
theorem zW0_t2 {T : zTn} {pt yr i c p : Nat} (hW : zW0 T pt yr) (hc : c < 100) (hp : p < 100) (hy : yr + 1 ≤ 999) : zW0 (zT2 T i c) p (yr + 1) := ⟨zV_t2 hW.1 hc, hp, hy, hW.2.2.2⟩
set_option maxHeartbeats 2000000 in
theorem rd_both {T : zTn} {tr : Nat → Int32} {pt yr : Nat} (hW : zW0 T pt yr) (hA : zA T tr) {st G : Nat → Int32} (hM : zM T G 0 (-4) pt yr) (hG : ∀ j, j < 26 → G (78 + j) = st j) (hG2 : ∀ j, 26 ≤ j → j < 78 → G j = st j) {k l' n : Nat} (hk : k ≤ 3) (hl : l' ≤ 2) (hn : n ≤ 20) {lanes lens sc cs : Nat → Int32} {lane size : Int32} (hS : zSh lane size cs (lanes k) (lens k) (fun i => sc (40 * k + i))) (f : Int32) (x1 x2 : Int32) (x3 : Nat → Int32) (rf l1 l2 l3 l4 l5 l6 : Int32) (l7 : Nat → Int32) (tn : Int32) : ∃ r1 r2, z_lp (p_X5_read_b52 (nI n) (nI l') f lane size cs (nI (t_d T), nI (t_ft T), x1, nI (t_st T), nI (t_be T), x2, x3) rf l1 l2 l3 l4 l5 l6 l7) 1000 ((0 : Int32), (0 : Int32), nI pt, nI yr, tr) = some r1 ∧ z_lp (p_X6_read_b55 (nI n) lanes (nI k) (nI l') lens f sc (-4) tn) 1000 ((0 : Int32), (0 : Int32), (0 : Int32), G) = some r2 ∧ zRd T st rf l1 l2 l3 l4 l5 l6 l7 tn r1 r2 := by
  have g0 : z_get lanes 4 (nI k) = some (lanes k) := z_get_n (by omega) (by decide)
  have e2n : (2 : Int32) * nI n = nI (2 * n) := by rw [zi2, pk_mul]
  refine z_lp_bis2 (b1 := p_X5_read_b52 (nI n) (nI l') f lane size cs (nI (t_d T), nI (t_ft T), x1, nI (t_st T), nI (t_be T), x2, x3) rf l1 l2 l3 l4 l5 l6 l7) (b2 := p_X6_read_b55 (nI n) lanes (nI k) (nI l') lens f sc (-4) tn) (R := zRd T st rf l1 l2 l3 l4 l5 l6 l7 tn) (fun m x y => ∃ (c : Nat) (T' : zTn) (p yy : Nat) (tr' G' : Nat → Int32), m = n - c ∧ c ≤ n ∧ (c = 0 ∨ ∃ f0, f0 < 40 ∧ f = nI f0) ∧ zW0 T' p yy ∧ t_d T' = t_d T ∧ t_ft T' = t_ft T ∧ t_st T' = t_st T ∧ t_be T' = t_be T ∧ zA T' tr' ∧ zM T' G' 0 (-4) p yy ∧ (∀ j, j < 26 → G' (78 + j) = st j) ∧ (∀ j, 26 ≤ j → j < 78 → G' j = st j) ∧ x = (nI c, (0 : Int32), nI p, nI yy, tr') ∧ y = ((0 : Int32), nI c, nI (2 * c), G')) ?_ n n _ _ 1000 1000 (Nat.le_refl _) ⟨0, T, pt, yr, tr, G, rfl, Nat.zero_le _, Or.inl rfl, hW, rfl, rfl, rfl, rfl, hA, hM, hG, hG2, rfl, rfl⟩ (by omega) (by omega)
  rintro m x y ⟨c, T', p, yy, tr', G', rfl, hc, hf, hW', d1, d2, d3, d4, hA', hM', hG', hG2', rfl, rfl⟩
  have e2c : (2 : Int32) * nI c = nI (2 * c) := by rw [zi2, pk_mul]
  by_cases hcn : c < n
  · obtain ⟨b, hb3, fa, fb, f0e⟩ := rd_fault hk hl hS.1 f (2 * c) (by omega) (by rcases hf with q | q; exact Or.inl (by omega); exact Or.inr q)
    rw [g0] at fb
    have n1 : ¬ nI (2 * n) ≤ nI (2 * c) := nI_ge (by omega) (by omega)
    have n2 : ¬ nI (2 * n) ≤ nI (2 * c + 1) := nI_ge (by omega) (by omega)
    have n0 : ¬ nI n ≤ nI c := nI_ge hcn (by omega)
    by_cases hb : b = 0
    · subst hb
      obtain ⟨f0, rfl, hf0⟩ := f0e rfl
      obtain ⟨b, hb3, ga, gb, g0e⟩ := rd_fault hk hl hS.1 (nI f0) (2 * c + 1) (by omega) (Or.inr ⟨f0, by omega, rfl⟩)
      rw [g0] at gb
      have ga' : p_X1_faultOf (nI l') (nI f0 + nI (2 * c) + (1 : Int32)) lane size = some (nI b) := by
        rw [show nI f0 + nI (2 * c) + (1 : Int32) = nI f0 + nI (2 * c + 1) by rw [nI_add, nI_1, nI_add, Nat.add_assoc]]
        exact ga
      have fp : p_X1_faultOfPair (nI l') (nI f0 + nI (2 * c)) lane size = some (nI b) := by
        unfold p_X1_faultOfPair
        rw [fa, zbs, if_pos (show nI 0 = (0 : Int32) from rfl), ga', zbs]
      have par0 : nI (2 * c) - nI (2 * c) / (2 : Int32) * (2 : Int32) = nI (2 * c % 2) := pk_rem (d := 2) (by omega) (by decide) (by decide)
      have par1 : nI (2 * c + 1) - nI (2 * c + 1) / (2 : Int32) * (2 : Int32) = nI ((2 * c + 1) % 2) := pk_rem (d := 2) (by omega) (by decide) (by decide)
      have s1 : p_X6_read_b55 (nI n) lanes (nI k) (nI l') lens (nI f0) sc (-4) tn ((0 : Int32), nI c, nI (2 * c), G') = some (.inr ((0 : Int32), nI c, nI (2 * c + 1), G')) := by
        unfold p_X6_read_b55
        try dsimp only
        rw [e2n, if_neg n1, if_pos rfl, g0, zbs, fb, zbs, if_pos (show nI 0 = (0 : Int32) from rfl), par0, if_neg (show ¬ nI (2 * c % 2) = (1 : Int32) by rw [show 2 * c % 2 = 0 by omega]; decide), nI_1]
        try rfl
      by_cases hb : b = 0
      · subst hb
        have hc1 : z_get cs 40 (nI f0 + nI (2 * c)) = some (cs (f0 + 2 * c)) := z_get_e (f0 + 2 * c) (nI_add _ _) (by omega) (by decide)
        have hf1 : f0 + (2 * c + 1) < 40 := by
          obtain ⟨f1, q1, q2⟩ := g0e rfl
          rw [nI_eq (by omega) (by omega)] at q1
          omega
        have hc2 : z_get cs 40 (nI f0 + nI (2 * c) + (1 : Int32)) = some (cs (f0 + (2 * c + 1))) := z_get_e (f0 + (2 * c + 1)) (by rw [nI_add, nI_1, Nat.add_assoc]) (by omega) (by decide)
        have hs2 : z_get sc 160 (((40 : Int32) * nI k) + nI f0 + nI (2 * c + 1)) = some (cs (f0 + (2 * c + 1))) := by
          rw [z_get_e (40 * k + (f0 + (2 * c + 1))) (by rw [show (40 : Int32) = nI 40 from rfl, pk_mul, nI_add, nI_add, Nat.add_assoc]) (by omega) (by decide)]
          exact congrArg some (hS.2 _ hf1).symm
        have hs1 : z_get sc 160 (((40 : Int32) * nI k) + nI f0 + nI (2 * c + 1) - (1 : Int32)) = some (cs (f0 + 2 * c)) := by
          rw [z_get_e (40 * k + (f0 + 2 * c)) (by rw [show (40 : Int32) = nI 40 from rfl, pk_mul, nI_add, nI_add, zi1, pk_sub (by omega)]; exact congrArg nI (by omega)) (by omega) (by decide)]
          exact congrArg some (hS.2 _ (by omega)).symm
        have hyg : z_get G' 156 (25 : Int32) = some (nI yy) := (z_get_e 25 rfl (by decide) (by decide)).trans (congrArg some hM'.2.2.2.2.2.1)
        have hcp : p_X6_copies (78 : Int32) (0 : Int32) G' = some (zcp G' 78 0) := b_copies (a := 78) (b := 0) (by decide) (by decide) (by decide)
        have hst : ∀ j, j < 78 → zcp G' 78 0 j = st j := by
          intro j hj
          by_cases q : j < 26
          · have := zcp_in (f := G') (a := 78) (b := 0) q
            rw [Nat.zero_add] at this
            rw [this]; exact hG' j q
          · rw [zcp_out (by omega)]; exact hG2' j (by omega) hj
        by_cases hy9 : yy = 999
        · subst hy9
          left
          have hrm := rd_rem9 (d := t_d T) (tr := tr') (ft := nI (t_ft T)) (po := nI p) (st := nI (t_st T)) (be := nI (t_be T)) hW.1.1 (cs (f0 + 2 * c)) (cs (f0 + (2 * c + 1)))
          refine ⟨.inl ((-20 : Int32) - nI c, rf, l1, l2, l3, l4, l5, l6, l7, nI (t_d T), nI (t_ft T), nI p, nI (t_st T), nI (t_be T), nI 999, tr'), .inl ((-20 : Int32) - nI c, tn, zcp G' 78 0), ?_, ?_, Or.inl ⟨_, _, _, _, _, _, _, _, _, rfl, rfl, hst⟩⟩
          · unfold p_X5_read_b52
            try dsimp only
            rw [if_neg n0, e2c, fp, zbs, if_pos (show nI 0 = (0 : Int32) from rfl), hc1, zbs, hc2, zbs, hrm, zbs]
            try dsimp only
            rw [if_pos rfl]
          · rw [z_lp_st s1]
            refine z_lp_en ?_
            unfold p_X6_read_b55
            try dsimp only
            rw [e2n, if_neg n2, if_pos rfl, g0, zbs, gb, zbs, if_pos (show nI 0 = (0 : Int32) from rfl), par1, if_pos (show nI ((2 * c + 1) % 2) = (1 : Int32) by rw [show (2 * c + 1) % 2 = 1 by omega]; rfl), hyg, zbs, if_pos (show nI 999 = (999 : Int32) from rfl), zbs, zer]
            try dsimp only
            rw [hcp, zbs]
        · have nn9 : ¬ nI yy = (999 : Int32) := nI_ne' (b := 999) hy9 (by have := hW'.2.2.1; omega) (by decide)
          rcases rd_rem hW' hA' hM' hy9 (cs (f0 + 2 * c)) (cs (f0 + (2 * c + 1))) with ⟨i, v, hi, hv, r1, w, r2, hw⟩ | ⟨r1, r2⟩
          · right
            rw [d1, d2, d3, d4] at r1
            have hy8 : yy + 1 ≤ 999 := by have := hW'.2.2.1; omega
            have hM2 : zM (zT2 T' i v) (upd G' (0 + 10 + i) (nI v)) 0 (-4) p yy := zM_t2 hM' hW'.1.1 hi
            have hV2 : zV (zT2 T' i v) := zV_t2 hW'.1 hv
            have hp2 := znp_lt hV2 (pt := p) hW'.2.1 (zho_le (zT2 T' i v) p yy)
            have hyb : p_X6_yearOn (0 : Int32) (-4) (upd G' (0 + 10 + i) (nI v)) = _ := b_year hV2 hM2 (by decide) hW'.2.1 (by omega)
            have hMy := zyr_M hM2 (znp (zT2 T' i v) p (zho (zT2 T' i v) p yy)) (yy + 1) hW'.1.1
            have hd5 := hW'.1.1
            refine ⟨n - (c + 1), (nI (c + 1), (0 : Int32), nI (znp (zT2 T' i v) p (zho (zT2 T' i v) p yy)), nI (yy + 1), upd tr' (4 * i + 2) (nI v)), ((0 : Int32), nI c, nI (2 * c + 1), G'), ((0 : Int32), nI (c + 1), nI (2 * (c + 1)), zyr (upd G' (0 + 10 + i) (nI v)) 0 (znp (zT2 T' i v) p (zho (zT2 T' i v) p yy)) (yy + 1)), by omega, ?_, s1, ?_, c + 1, zT2 T' i v, znp (zT2 T' i v) p (zho (zT2 T' i v) p yy), yy + 1, upd tr' (4 * i + 2) (nI v), zyr (upd G' (0 + 10 + i) (nI v)) 0 (znp (zT2 T' i v) p (zho (zT2 T' i v) p yy)) (yy + 1), rfl, hcn, Or.inr ⟨f0, by omega, rfl⟩, zW0_t2 hW' hv hp2 hy8, d1, d2, d3, d4, zA_t2 hA', hMy, ?_, ?_, rfl, rfl⟩
            · unfold p_X5_read_b52
              try dsimp only
              rw [if_neg n0, e2c, fp, zbs, if_pos (show nI 0 = (0 : Int32) from rfl), hc1, zbs, hc2, zbs, r1, zbs]
              try dsimp only
              rw [if_neg z1n0, nI_1]
              try rfl
            · unfold p_X6_read_b55
              try dsimp only
              rw [e2n, if_neg n2, if_pos rfl, g0, zbs, gb, zbs, if_pos (show nI 0 = (0 : Int32) from rfl), par1, if_pos (show nI ((2 * c + 1) % 2) = (1 : Int32) by rw [show (2 * c + 1) % 2 = 1 by omega]; rfl), hyg, zbs, if_neg nn9, hs1, zbs, hs2, zbs, r2, zbs]
              try dsimp only
              rw [if_pos (show (0 : Int32) ≤ nI w from nI_le (a := 0) (by omega) (by omega)), hyb, zbs, zbs, zel, nI_1, nI_1]
              try rfl
            · intro j hj
              rw [zyr_out (by omega), pk_un (by omega)]
              exact hG' j hj
            · intro j hj1 hj2
              rw [zyr_out (by omega), pk_un (by omega)]
              exact hG2' j hj1 hj2
          · left
            rw [d1, d2, d3, d4] at r1
            refine ⟨.inl ((-20 : Int32) - nI c, rf, l1, l2, l3, l4, l5, l6, l7, nI (t_d T), nI (t_ft T), nI p, nI (t_st T), nI (t_be T), nI yy, tr'), .inl ((-20 : Int32) - nI c, tn, zcp G' 78 0), ?_, ?_, Or.inl ⟨_, _, _, _, _, _, _, _, _, rfl, rfl, hst⟩⟩
            · unfold p_X5_read_b52
              try dsimp only
              rw [if_neg n0, e2c, fp, zbs, if_pos (show nI 0 = (0 : Int32) from rfl), hc1, zbs, hc2, zbs, r1, zbs]
              try dsimp only
              rw [if_pos rfl]
            · rw [z_lp_st s1]
              refine z_lp_en ?_
              unfold p_X6_read_b55
              try dsimp only
              rw [e2n, if_neg n2, if_pos rfl, g0, zbs, gb, zbs, if_pos (show nI 0 = (0 : Int32) from rfl), par1, if_pos (show nI ((2 * c + 1) % 2) = (1 : Int32) by rw [show (2 * c + 1) % 2 = 1 by omega]; rfl), hyg, zbs, if_neg nn9, hs1, zbs, hs2, zbs, r2, zbs]
              try dsimp only
              rw [if_neg (show ¬ (0 : Int32) ≤ -1 by decide), zbs, zer]
              try dsimp only
              rw [hcp, zbs]
      · left
        have nb : ¬ nI b = (0 : Int32) := nI_ne' (b := 0) hb (by omega) (by decide)
        refine ⟨.inr (nI c, nI b, nI p, nI yy, tr'), .inr (nI b, nI c, G'), ?_, ?_, Or.inr ⟨c, b, T', p, yy, tr', G', rfl, rfl, hW', d1, d2, d3, d4, hA', hM', hG2'⟩⟩
        · unfold p_X5_read_b52
          try dsimp only
          rw [if_neg n0, e2c, fp, zbs, if_neg nb]
        · have s2 : p_X6_read_b55 (nI n) lanes (nI k) (nI l') lens (nI f0) sc (-4) tn ((0 : Int32), nI c, nI (2 * c + 1), G') = some (.inr (nI b, nI c, nI (2 * c + 2), G')) := by
            unfold p_X6_read_b55
            try dsimp only
            rw [e2n, if_neg n2, if_pos rfl, g0, zbs, gb, zbs, if_neg nb, nI_1]
          rw [z_lp_st s1, z_lp_st s2]
          refine z_lp_en ?_
          unfold p_X6_read_b55
          try dsimp only
          rw [e2n]
          by_cases q : nI (2 * n) ≤ nI (2 * c + 2)
          · rw [if_pos q]
          · rw [if_neg q, if_neg nb]
    · left
      have nb : ¬ nI b = (0 : Int32) := nI_ne' (b := 0) hb (by omega) (by decide)
      refine ⟨.inr (nI c, nI b, nI p, nI yy, tr'), .inr (nI b, nI c, G'), ?_, ?_, Or.inr ⟨c, b, T', p, yy, tr', G', rfl, rfl, hW', d1, d2, d3, d4, hA', hM', hG2'⟩⟩
      · unfold p_X5_read_b52
        try dsimp only
        rw [if_neg n0, e2c]
        have fp : p_X1_faultOfPair (nI l') (f + nI (2 * c)) lane size = some (nI b) := by
          unfold p_X1_faultOfPair
          rw [fa, zbs, if_neg nb]
        rw [fp, zbs, if_neg nb]
      · have s1 : p_X6_read_b55 (nI n) lanes (nI k) (nI l') lens f sc (-4) tn ((0 : Int32), nI c, nI (2 * c), G') = some (.inr (nI b, nI c, nI (2 * c + 1), G')) := by
          unfold p_X6_read_b55
          try dsimp only
          rw [e2n, if_neg n1, if_pos rfl, g0, zbs, fb, zbs, if_neg nb, nI_1]
        rw [z_lp_st s1]
        refine z_lp_en ?_
        unfold p_X6_read_b55
        try dsimp only
        rw [e2n, if_neg n2, if_neg nb]
  · left
    have hce : c = n := by omega
    refine ⟨.inr (nI c, (0 : Int32), nI p, nI yy, tr'), .inr ((0 : Int32), nI c, G'), ?_, ?_, Or.inr ⟨c, 0, T', p, yy, tr', G', rfl, rfl, hW', d1, d2, d3, d4, hA', hM', hG2'⟩⟩
    · unfold p_X5_read_b52
      try dsimp only
      rw [if_pos (show nI n ≤ nI c from nI_le (by omega) (by omega))]
    · refine z_lp_en ?_
      unfold p_X6_read_b55
      try dsimp only
      rw [e2n, if_pos (show nI (2 * n) ≤ nI (2 * c) from nI_le (by omega) (by omega))]
