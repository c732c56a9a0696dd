/-! TWO LOOPS side by side; DRIFT -/
theorem z_lp_bis {σ1 ρ1 σ2 ρ2 : Type} {b1 : σ1 → Option (ρ1 ⊕ σ1)} {b2 : σ2 → Option (ρ2 ⊕ σ2)} {R : ρ1 → ρ2 → Prop} (I : Nat → σ1 → σ2 → Prop) (h : ∀ n x y, I n x y → (∃ r1 r2, b1 x = some (.inl r1) ∧ b2 y = some (.inl r2) ∧ R r1 r2) ∨ (∃ m x' y', m < n ∧ b1 x = some (.inr x') ∧ b2 y = some (.inr y') ∧ I m x' y')) : ∀ (N n : Nat) (x : σ1) (y : σ2) (f1 f2 : Nat), n ≤ N → I n x y → N < f1 → N < f2 → ∃ r1 r2, z_lp b1 f1 x = some r1 ∧ z_lp b2 f2 y = some r2 ∧ R r1 r2
  | 0, n, x, y, f1, f2, hn, hI, h1, h2 => by
    obtain ⟨m1, rfl⟩ : ∃ m, f1 = m + 1 := ⟨f1 - 1, by omega⟩
    obtain ⟨m2, rfl⟩ : ∃ m, f2 = m + 1 := ⟨f2 - 1, by omega⟩
    rcases h n x y hI with ⟨r1, r2, q1, q2, q3⟩ | ⟨m, x', y', hm, -⟩
    · exact ⟨r1, r2, by rw [z_lp, q1], by rw [z_lp, q2], q3⟩
    · exact absurd hm (by omega)
  | N + 1, n, x, y, f1, f2, hn, hI, h1, h2 => by
    obtain ⟨m1, rfl⟩ : ∃ m, f1 = m + 1 := ⟨f1 - 1, by omega⟩
    obtain ⟨m2, rfl⟩ : ∃ m, f2 = m + 1 := ⟨f2 - 1, by omega⟩
    rcases h n x y hI with ⟨r1, r2, q1, q2, q3⟩ | ⟨m, x', y', hm, q1, q2, q3⟩
    · exact ⟨r1, r2, by rw [z_lp, q1], by rw [z_lp, q2], q3⟩
    · obtain ⟨r1, r2, k1, k2, k3⟩ := z_lp_bis I h N m x' y' m1 m2 (by omega) q3 (by omega) (by omega)
      exact ⟨r1, r2, by rw [z_lp, q1]; exact k1, by rw [z_lp, q2]; exact k2, k3⟩
theorem bt_32767 : ∀ i, i < 32 → bt 32767 i = decide (i < 15) := by decide
theorem got_eq (x : Int32) : ((x.toUInt32 >>> ((16 : Int32).toUInt32 &&& Int32.toUInt32 31)).toInt32) &&& (32767 : Int32) = (x >>> ((16 : Int32) &&& 31)) &&& (32767 : Int32) := by
  refine b_ext (fun i hi => ?_)
  have e1 := b_ushr 16 (by decide) x i
  have e2 := b_sshr 16 (by decide) x hi
  have e1' : bt ((x.toUInt32 >>> ((16 : Int32).toUInt32 &&& Int32.toUInt32 31)).toInt32) i = bt x (16 + i) := e1
  have e2' : bt (x >>> ((16 : Int32) &&& 31)) i = if 16 + i < 32 then bt x (16 + i) else bt x 31 := e2
  rw [b_and, b_and, e1', e2', bt_32767 i hi]
  by_cases c : i < 15
  · rw [if_pos (by omega)]
  · rw [decide_eq_false c, Bool.and_false, Bool.and_false]
theorem z_rem_n {a b : Nat} (ha : a < 2 ^ 31) (h0 : 0 < b) (hb : b < 2 ^ 31) : z_rem (nI a) (nI b) = some (nI (a % b)) := by
  rw [z_rem, if_neg (nI_ne0 h0 hb), pk_rem ha h0 hb]
section ZD
variable {T : zTn} {tr f : Nat → Int32} {pt yr : Nat}
/-- the two loops of drift -/
theorem drift_both (hV : zV T) (hA : zA T tr) {G : Nat → Int32} (hM : zM T G 104 (-4) pt yr) (hlo : zLo f G) (hf20 : f 20 = nI (t_d T)) (hp : pt < 100) (hy : yr ≤ 999) (hd0 : 0 < t_d T) {n : Nat} (hn : n ≤ 60) (s : Int32) (x1 : Int32) (x2 : Int32) (x3 : Nat → Int32) : ∃ r1 r2, z_lp (p_X5_drift_b62 (nI n) (nI (t_d T)) (nI (t_d T), nI (t_ft T), x1, nI (t_st T), nI (t_be T), x2, x3)) 1000 (nI (zln_ T pt), s, (0 : Int32), nI pt, nI yr, tr) = some r1 ∧ z_lp (p_X6_drift_b58 (nI n) (-4)) 1000 (s, nI (zln_ T pt), (0 : Int32), G) = some r2 ∧ (r1.1 = r2.1 ∧ zLo f r2.2 ∧ p_X6_pointOn (104 : Int32) r2.2 = some r1.2.1) := by
  refine z_lp_bis (b1 := p_X5_drift_b62 (nI n) (nI (t_d T)) (nI (t_d T), nI (t_ft T), x1, nI (t_st T), nI (t_be T), x2, x3)) (b2 := p_X6_drift_b58 (nI n) (-4)) (R := fun r1 r2 => r1.1 = r2.1 ∧ zLo f r2.2 ∧ p_X6_pointOn (104 : Int32) r2.2 = some r1.2.1) (fun m x y => ∃ (i : Nat) (T' : zTn) (p g : Nat) (s : Int32) (tr' G' : Nat → Int32), m = n - i ∧ i ≤ n ∧ zV T' ∧ t_d T' = t_d T ∧ t_ft T' = t_ft T ∧ t_st T' = t_st T ∧ t_be T' = t_be T ∧ zA T' tr' ∧ zM T' G' 104 (-4) p (yr + i) ∧ zLo f G' ∧ p < 100 ∧ g ≤ 18 ∧ x = (nI g, s, nI i, nI p, nI (yr + i), tr') ∧ y = (s, nI g, nI i, G')) ?_ n n _ _ 1000 1000 (Nat.le_refl _) ⟨0, T, pt, zln_ T pt, s, tr, G, rfl, Nat.zero_le _, hV, rfl, rfl, rfl, rfl, hA, hM, hlo, hp, zfar_le hp hV.2.1, rfl, rfl⟩ (by omega) (by omega)
  rintro m x y ⟨i, T', p, g, s, tr', G', rfl, hi, hV', d1, d2, d3, d4, hA', hM', hlo', hp', hg, rfl, rfl⟩
  have hd := hV.1
  by_cases c : i < n
  · right
    obtain ⟨K, hK, eK⟩ := pk_andE ((s * (1103515245 : Int32) + (12345 : Int32)) >>> ((16 : Int32) &&& 31)) (m := 32767) 15 (by decide)
    have hK' : K < 32768 := hK
    have hj : K % t_d T < t_d T := Nat.mod_lt _ hd0
    have hcell : K / 8 % 100 < 100 := Nat.mod_lt _ (by decide)
    have ecell : nI K / (8 : Int32) - nI K / (8 : Int32) / (100 : Int32) * (100 : Int32) = nI (K / 8 % 100) := by
      rw [show nI K / (8 : Int32) = nI (K / 8) from pk_div (d := 8) (by omega) (by decide) (by decide)]
      exact pk_rem (d := 100) (by omega) (by decide) (by decide)
    have hV2 : zV (zT2 T' (K % t_d T) (K / 8 % 100)) := zV_t2 hV' hcell
    have hA2 : zA (zT2 T' (K % t_d T) (K / 8 % 100)) (upd tr' (4 * (K % t_d T) + 2) (nI (K / 8 % 100))) := zA_t2 hA'
    have hM2 : zM (zT2 T' (K % t_d T) (K / 8 % 100)) (upd G' (104 + 10 + K % t_d T) (nI (K / 8 % 100))) 104 (-4) p (yr + i) := zM_t2 hM' (by omega) (by omega)
    have hle := zho_le (zT2 T' (K % t_d T) (K / 8 % 100)) p (yr + i)
    have hp2 := znp_lt hV2 hp' hle
    have hyr := a_year hV2 hA2 hp' (yr := yr + i) (by omega)
    have hyrb : p_X6_yearOn (104 : Int32) (-4) (upd G' (104 + 10 + K % t_d T) (nI (K / 8 % 100))) = _ := b_year hV2 hM2 (by decide) hp' (by omega)
    have M3 := zyr_M hM2 (znp (zT2 T' (K % t_d T) (K / 8 % 100)) p (zho (zT2 T' (K % t_d T) (K / 8 % 100)) p (yr + i))) (yr + i + 1) (by show t_d T' ≤ 5; omega)
    have hlb : p_X6_leanOn (104 : Int32) _ = some (nI (zln_ (zT2 T' (K % t_d T) (K / 8 % 100)) _)) := b_lean hV2 M3 (by decide) hp2
    have hla := a_lean hV2 hp2
    have hl18 : zln_ (zT2 T' (K % t_d T) (K / 8 % 100)) (znp (zT2 T' (K % t_d T) (K / 8 % 100)) p (zho (zT2 T' (K % t_d T) (K / 8 % 100)) p (yr + i))) ≤ 18 := zfar_le hp2 hV2.2.1
    have hl2 : zLo f (zyr (upd G' (104 + 10 + K % t_d T) (nI (K / 8 % 100))) 104 (znp (zT2 T' (K % t_d T) (K / 8 % 100)) p (zho (zT2 T' (K % t_d T) (K / 8 % 100)) p (yr + i))) (yr + i + 1)) := zLo_y (zLo_u hlo' (by omega)) (by decide)
    have g20 : z_get G' 156 (20 : Int32) = some (nI (t_d T)) := by rw [← hf20, ← hlo' 20 (by decide)]; exact z_get_n (i := 20) (by decide) (by decide)
    have c1 : z_set G' 156 ((114 : Int32) + nI (K % t_d T)) (nI (K / 8 % 100)) = some (upd G' (104 + 10 + K % t_d T) (nI (K / 8 % 100))) := z_set_e (104 + 10 + K % t_d T) (by rw [show (114 : Int32) = nI 114 from rfl, nI_add]) (by omega) (by decide)
    generalize zho (zT2 T' (K % t_d T) (K / 8 % 100)) p (yr + i) = H at hle hp2 hyr hyrb M3 hlb hla hl18 hl2
    have hyr' : p_X4_passYear (nI (t_d T)) (nI (t_ft T)) (nI p) (nI (t_st T)) (nI (t_be T)) (nI (yr + i)) (upd tr' (4 * (K % t_d T) + 2) (nI (K / 8 % 100))) = some (zhc H, nI (znp (zT2 T' (K % t_d T) (K / 8 % 100)) p H), nI (yr + i + 1)) := by
      rw [← d1, ← d2, ← d3, ← d4]; rw [← d1] at hyr; exact hyr
    have hla' : p_X4_lean (nI (t_ft T)) (nI (znp (zT2 T' (K % t_d T) (K / 8 % 100)) p H)) = some (nI (zln_ (zT2 T' (K % t_d T) (K / 8 % 100)) (znp (zT2 T' (K % t_d T) (K / 8 % 100)) p H))) := by
      rw [← d2]; exact hla
    refine ⟨n - (i + 1), (nI (if g < zln_ (zT2 T' (K % t_d T) (K / 8 % 100)) (znp (zT2 T' (K % t_d T) (K / 8 % 100)) p H) then zln_ (zT2 T' (K % t_d T) (K / 8 % 100)) (znp (zT2 T' (K % t_d T) (K / 8 % 100)) p H) else g), s * (1103515245 : Int32) + (12345 : Int32), nI (i + 1), nI (znp (zT2 T' (K % t_d T) (K / 8 % 100)) p H), nI (yr + (i + 1)), upd tr' (4 * (K % t_d T) + 2) (nI (K / 8 % 100))), (s * (1103515245 : Int32) + (12345 : Int32), nI (if g < zln_ (zT2 T' (K % t_d T) (K / 8 % 100)) (znp (zT2 T' (K % t_d T) (K / 8 % 100)) p H) then zln_ (zT2 T' (K % t_d T) (K / 8 % 100)) (znp (zT2 T' (K % t_d T) (K / 8 % 100)) p H) else g), nI (i + 1), zyr (upd G' (104 + 10 + K % t_d T) (nI (K / 8 % 100))) 104 (znp (zT2 T' (K % t_d T) (K / 8 % 100)) p H) (yr + i + 1)), by omega, ?_, ?_, i + 1, zT2 T' (K % t_d T) (K / 8 % 100), znp (zT2 T' (K % t_d T) (K / 8 % 100)) p H, (if g < zln_ (zT2 T' (K % t_d T) (K / 8 % 100)) (znp (zT2 T' (K % t_d T) (K / 8 % 100)) p H) then zln_ (zT2 T' (K % t_d T) (K / 8 % 100)) (znp (zT2 T' (K % t_d T) (K / 8 % 100)) p H) else g), s * (1103515245 : Int32) + (12345 : Int32), upd tr' (4 * (K % t_d T) + 2) (nI (K / 8 % 100)), zyr (upd G' (104 + 10 + K % t_d T) (nI (K / 8 % 100))) 104 (znp (zT2 T' (K % t_d T) (K / 8 % 100)) p H) (yr + i + 1), rfl, by omega, hV2, d1, d2, d3, d4, hA2, M3, hl2, hp2, by split <;> omega, rfl, rfl⟩
    · unfold p_X5_drift_b62
      try dsimp only
      rw [if_neg (nI_ge c (by omega)), got_eq, eK, z_rem_n (by omega) hd0 (by omega), zbs, ecell]
      show (p_X4_setTrait (nI (K % t_d T)) (nI 2) (nI (K / 8 % 100)) tr').bind _ = _
      rw [a_set (by omega) (by decide), zbs, hyr', zbs]
      try dsimp only
      rw [hla', zbs, nI_1, show yr + i + 1 = yr + (i + 1) by omega]
      generalize zln_ (zT2 T' (K % t_d T) (K / 8 % 100)) (znp (zT2 T' (K % t_d T) (K / 8 % 100)) p H) = L at hl18
      by_cases q : g < L
      · rw [if_pos (nI_lt q (by omega)), if_pos q]
      · rw [if_neg (nI_nlt' q (by omega)), if_neg q]
    · unfold p_X6_drift_b58
      try dsimp only
      rw [if_neg (nI_ge c (by omega)), g20, zbs, eK, z_rem_n (by omega) hd0 (by omega), zbs, ecell, c1, zbs, hyrb, zbs]
      try dsimp only
      rw [hlb, zbs, zbs, nI_1]
      generalize zln_ (zT2 T' (K % t_d T) (K / 8 % 100)) (znp (zT2 T' (K % t_d T) (K / 8 % 100)) p H) = L at hl18
      by_cases q : g < L
      · rw [if_neg (nI_ge q (by omega)), if_pos q]
      · rw [if_pos (nI_le (by omega) (by omega)), if_neg q]
  · left
    refine ⟨(nI g, nI p, nI (yr + i), tr'), (nI g, G'), ?_, ?_, rfl, hlo', b_point hM' (by decide)⟩
    · unfold p_X5_drift_b62
      try dsimp only
      rw [if_pos (nI_le (by omega) (by omega))]
    · unfold p_X6_drift_b58
      try dsimp only
      rw [if_pos (nI_le (by omega) (by omega))]
end ZD
