theorem zL0 : (0 : Int64).toInt = 0 := by decide
theorem in_no {x a b : Int64} (h : x.toInt < a.toInt ∨ b.toInt < x.toInt) : p_X6_in x a b = some 0 := by
  unfold p_X6_in
  by_cases c : x < a
  · rw [if_pos (lg_lt0.mpr c)]
  · rw [if_neg (fun q => c (lg_lt0.mp q)), if_pos (lg_gt0.mpr ((zx_ltL _ _).mpr (by rcases h with q | q; exact absurd ((zx_ltL _ _).mpr q) c; exact q)))]
theorem in_yes {x a b : Int64} (h1 : a.toInt ≤ x.toInt) (h2 : x.toInt ≤ b.toInt) : p_X6_in x a b = some 1 := by
  unfold p_X6_in
  rw [if_neg (fun q => by have := (zx_ltL _ _).mp (lg_lt0.mp q); omega), if_neg (fun q => by have := (zx_ltL _ _).mp (lg_gt0.mp q); omega)]
theorem arg_draw (x : Int32) {d : Nat} (hd : d ≤ 5) {f : Nat → Int32} (hf : f 20 = nI d) : (∃ j, j < d ∧ x = nI j ∧ p_X4_hasDraw x (nI d) = some 1 ∧ p_X6_isDraw x f = some 1) ∨ (p_X4_hasDraw x (nI d) = some 0 ∧ p_X6_isDraw x f = some 0 ∧ ¬ ∃ j, j < d ∧ x = nI j) := by
  have g20 : z_get f 156 (20 : Int32) = some (nI d) := by rw [← hf]; exact z_get_n (i := 20) (by decide) (by decide)
  have hdI : ((nI d - 1 : Int32).toInt64).toInt = (d : Int) - 1 := by rw [zx_l, zi1, pk_sub_toInt (by omega) (by omega)]; rfl
  have h0I : (0 : Int32).toInt = 0 := by decide
  by_cases h0 : x < 0
  · right
    have h0' := (zx_lt _ _).mp h0
    rw [h0I] at h0'
    refine ⟨by unfold p_X4_hasDraw; rw [if_pos h0], ?_, ?_⟩
    · unfold p_X6_isDraw
      rw [g20, zbs, in_no (Or.inl (by rw [zx_l, zL0]; exact h0')), zbs, bit0]; rfl
    · rintro ⟨j, hj, rfl⟩
      exact nI_pos (by omega) h0
  · obtain ⟨j, hj, rfl⟩ := nI_of h0
    have jI : (nI j).toInt64.toInt = (j : Int) := by rw [zx_l, nI_toInt hj]
    by_cases c : j < d
    · left
      refine ⟨j, c, rfl, by unfold p_X4_hasDraw; rw [if_neg h0, if_neg (nI_ge c (by omega))], ?_⟩
      unfold p_X6_isDraw
      rw [g20, zbs, in_yes (by rw [jI, zL0]; omega) (by rw [jI, hdI]; omega), zbs, bit1]; rfl
    · right
      refine ⟨by unfold p_X4_hasDraw; rw [if_neg h0, if_pos (nI_le (by omega) hj)], ?_, ?_⟩
      · unfold p_X6_isDraw
        rw [g20, zbs, in_no (Or.inr (by rw [jI, hdI]; omega)), zbs, bit0]; rfl
      · rintro ⟨i, hi, e⟩
        rw [nI_eq hj (by omega)] at e
        omega
theorem b_years {T : zTn} {f : Nat → Int32} {sil : Int32} {pt yr n : Nat} (hV : zV T) (hM : zM T f 0 sil pt yr) (hp : pt < 100) (hy : yr + n < 1000000) (hn : n < 1000) : z_lp (p_X6_years_b34 (nI n) sil) 1000 ((0 : Int32), f) = some (zyr f 0 (zps T pt yr n) (yr + n)) := by
  have run := z_lp_run (body := p_X6_years_b34 (nI n) sil) (r := zyr f 0 (zps T pt yr n) (yr + n)) n (fun i => (nI i, zyr f 0 (zps T pt yr i) (yr + i))) 1000 ?_ ?_ hn
  · have e0 : ((0 : Int32), f) = (fun i => (nI i, zyr f 0 (zps T pt yr i) (yr + i))) 0 := by
      show _ = (nI 0, zyr f 0 pt yr)
      rw [zyr_same hM]; rfl
    rw [e0, run]
  · intro i hi
    show p_X6_years_b34 (nI n) sil (nI i, zyr f 0 (zps T pt yr i) (yr + i)) = _
    unfold p_X6_years_b34
    rw [if_neg (nI_ge hi (by omega))]
    show (p_X6_yearOn (nI 0) sil (zyr f 0 (zps T pt yr i) (yr + i))).bind _ = _
    rw [b_yearI hV hM (by omega) hp (by omega), zbs, nI_1]
  · show p_X6_years_b34 (nI n) sil (nI n, zyr f 0 (zps T pt yr n) (yr + n)) = _
    unfold p_X6_years_b34
    rw [if_pos (nI_le (Nat.le_refl _) (by omega))]
