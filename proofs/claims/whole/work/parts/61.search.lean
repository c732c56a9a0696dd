/-! LOOPS with what nobody reads in their state; searches -/
theorem z_lp_inv {σ ρ : Type} {body : σ → Option (ρ ⊕ σ)} {R : ρ → Prop} : ∀ (N : Nat) (I : Nat → σ → Prop) (fuel : Nat) (x : σ), (∀ i x, i < N → I i x → ∃ y, body x = some (.inr y) ∧ I (i + 1) y) → (∀ x, I N x → ∃ r, body x = some (.inl r) ∧ R r) → I 0 x → N < fuel → ∃ r, z_lp body fuel x = some r ∧ R r
  | 0, I, fuel, x, _, he, h0, hf => by
    obtain ⟨m, rfl⟩ : ∃ m, fuel = m + 1 := ⟨fuel - 1, by omega⟩
    obtain ⟨r, h1, h2⟩ := he x h0
    exact ⟨r, by rw [z_lp, h1], h2⟩
  | N + 1, I, fuel, x, hs, he, h0, hf => by
    obtain ⟨m, rfl⟩ : ∃ m, fuel = m + 1 := ⟨fuel - 1, by omega⟩
    obtain ⟨y, h1, h2⟩ := hs 0 x (by omega) h0
    obtain ⟨r, h3, h4⟩ := z_lp_inv N (fun i => I (i + 1)) m y (fun i x hi hx => hs (i + 1) x (by omega) hx) he h2 (by omega)
    exact ⟨r, by rw [z_lp, h1]; exact h3, h4⟩
theorem zor0 (x : Int32) : x ||| 0 = x := Int32.or_zero
section ZS2
variable {T : zTn} {f : Nat → Int32} {sil : Int32} {pt yr n : Nat}
/-- yearsGo, from page pg -/
theorem b_go (hV : zV T) {pg : Nat} (hpg : pg = 0 ∨ pg = 130) (hM : zM T f pg sil pt yr) (hp : pt < 100) (hy : yr + n < 1000000) (hn : n < 1000) : p_X6_yearsGo (nI pg) (nI n) sil f = some (nI (zgl T pt yr n), nI (zmv T pt yr n), zhs T pt yr n, zyr (zcp f pg 104) 104 (zps T pt yr n) (yr + n)) := by
  have hg : pg ≤ 130 := by omega
  have hC := zM_cp (b := 104) hV.1 hM
  have hd := hV.1
  have hcp : p_X6_copies (nI pg) (104 : Int32) f = some (zcp f pg 104) := b_copies (b := 104) hg (by decide) (by omega)
  generalize hgd : zcp f pg 104 = g at hC hcp ⊢
  have run := z_lp_run (body := p_X6_yearsGo_b29 (nI n) sil) (r := (nI (zgl T pt yr n), nI (zmv T pt yr n), zhs T pt yr n, zyr g 104 (zps T pt yr n) (yr + n))) n (fun i => (nI i, nI (zgl T pt yr i), nI (zmv T pt yr i), zhs T pt yr i, zyr g 104 (zps T pt yr i) (yr + i))) 1000 ?_ ?_ hn
  · unfold p_X6_yearsGo
    rw [hcp, zbs, show p_X6_leanOn (104 : Int32) g = _ from b_lean hV hC (by decide) hp, zbs]
    have e0 : ((0 : Int32), nI (zln_ T pt), (0 : Int32), (0 : Int32), g) = (fun i => (nI i, nI (zgl T pt yr i), nI (zmv T pt yr i), zhs T pt yr i, zyr g 104 (zps T pt yr i) (yr + i))) 0 := by
      show _ = (nI 0, nI (zln_ T pt), nI 0, (0 : Int32), zyr g 104 pt yr)
      rw [zyr_same hC]; rfl
    rw [e0, run]
    rfl
  · intro i hi
    have hl : zln_ T (zps T pt yr (i + 1)) ≤ 18 := zfar_le (zps_lt hV hp (i + 1)) hV.2.1
    have hgl := zgl_le hV (yr := yr) hp i
    have h1 := zps_lt hV (yr := yr) hp i
    have h2 := zps_lt hV (yr := yr) hp (i + 1)
    have hle := zho_le T (zps T pt yr i) (yr + i)
    have M1 := zyr_M hC (zps T pt yr i) (yr + i) hV.1
    have M2 := zyr_M hC (zps T pt yr (i + 1)) (yr + (i + 1)) hV.1
    show p_X6_yearsGo_b29 (nI n) sil (nI i, nI (zgl T pt yr i), nI (zmv T pt yr i), zhs T pt yr i, zyr g 104 (zps T pt yr i) (yr + i)) = _
    unfold p_X6_yearsGo_b29
    rw [if_neg (nI_ge hi (by omega))]
    show (p_X6_pointOn (nI 104) (zyr g 104 (zps T pt yr i) (yr + i))).bind _ = _
    rw [b_point M1 (by decide), zbs]
    show (p_X6_holderOn (nI 104) sil (zyr g 104 (zps T pt yr i) (yr + i))).bind _ = _
    rw [b_holder hV M1 (by decide) h1 (by omega), zbs]
    show (p_X6_yearOn (nI 104) sil (zyr g 104 (zps T pt yr i) (yr + i))).bind _ = _
    rw [b_yearI hV hC (by decide) hp (by omega), zbs]
    show (p_X6_pointOn (nI 104) (zyr g 104 (zps T pt yr (i + 1)) (yr + (i + 1)))).bind _ = _
    rw [b_point M2 (by decide), zbs]
    show (p_X6_leanOn (nI 104) (zyr g 104 (zps T pt yr (i + 1)) (yr + (i + 1)))).bind _ = _
    rw [b_lean hV M2 (by decide) h2, zbs]
    have em : nI (zmv T pt yr i) + (if nI (zps T pt yr (i + 1)) = nI (zps T pt yr i) then (0 : Int32) else (1 : Int32)) = nI (zmv T pt yr (i + 1)) := by
      rw [zmv]
      by_cases q : zps T pt yr (i + 1) = zps T pt yr i
      · rw [if_pos (by rw [q]), if_pos q]; exact Int32.add_zero _
      · rw [if_neg (nI_ne' q (by omega) (by omega)), if_neg q, nI_1]
    have eh : (zhs T pt yr i ||| (if zhc (zho T (zps T pt yr i) (yr + i)) = (-4 : Int32) then (0 : Int32) else (1 : Int32) <<< (zhc (zho T (zps T pt yr i) (yr + i)) &&& 31))) = zhs T pt yr (i + 1) := by
      rw [zhs]
      by_cases q : zho T (zps T pt yr i) (yr + i) = 0
      · rw [if_pos ((zhc_m4 (by omega)).mpr q), if_pos q]; exact zor0 _
      · rw [if_neg (fun z => q ((zhc_m4 (by omega)).mp z)), if_neg q]
    show (if nI (zln_ T (zps T pt yr (i + 1))) ≤ nI (zgl T pt yr i) then some (Sum.inr (nI i + 1, nI (zgl T pt yr i), nI (zmv T pt yr i) + (if nI (zps T pt yr (i + 1)) = nI (zps T pt yr i) then (0 : Int32) else (1 : Int32)), (zhs T pt yr i ||| (if zhc (zho T (zps T pt yr i) (yr + i)) = (-4 : Int32) then (0 : Int32) else (1 : Int32) <<< (zhc (zho T (zps T pt yr i) (yr + i)) &&& 31))), zyr g 104 (zps T pt yr (i + 1)) (yr + (i + 1)))) else (p_X6_leanOn (nI 104) (zyr g 104 (zps T pt yr (i + 1)) (yr + (i + 1)))).bind (fun w6_ => some (Sum.inr (nI i + 1, w6_, nI (zmv T pt yr i) + (if nI (zps T pt yr (i + 1)) = nI (zps T pt yr i) then (0 : Int32) else (1 : Int32)), (zhs T pt yr i ||| (if zhc (zho T (zps T pt yr i) (yr + i)) = (-4 : Int32) then (0 : Int32) else (1 : Int32) <<< (zhc (zho T (zps T pt yr i) (yr + i)) &&& 31))), zyr g 104 (zps T pt yr (i + 1)) (yr + (i + 1)))))) = some (Sum.inr (nI (i + 1), nI (zgl T pt yr (i + 1)), nI (zmv T pt yr (i + 1)), zhs T pt yr (i + 1), zyr g 104 (zps T pt yr (i + 1)) (yr + (i + 1))))
    rw [em, eh, nI_1, b_lean hV M2 (by decide) h2, zbs, zgl]
    by_cases q : zgl T pt yr i < zln_ T (zps T pt yr (i + 1))
    · rw [if_neg (nI_ge q (by omega)), if_pos q]
    · rw [if_pos (nI_le (by omega) (by omega)), if_neg q]
  · show p_X6_yearsGo_b29 (nI n) sil (nI n, nI (zgl T pt yr n), nI (zmv T pt yr n), zhs T pt yr n, zyr g 104 (zps T pt yr n) (yr + n)) = _
    unfold p_X6_yearsGo_b29
    rw [if_pos (nI_le (Nat.le_refl _) (by omega))]
/-- comesOn, from page pg -/
theorem b_comes (hV : zV T) {pg : Nat} (hpg : pg = 0 ∨ pg = 130) (hM : zM T f pg sil pt yr) (hp : pt < 100) (hy : yr + 61 < 1000000) {c : Nat} (hc : c < 100) : ∃ k, p_X6_comesOn (nI pg) (nI c) sil f = some (zrs (fa_first (fun i => decide (zps T pt yr i = c)) 61) 61, zyr (zcp f pg 104) 104 (zps T pt yr k) (yr + k)) := by
  have hg : pg ≤ 130 := by omega
  have hC := zM_cp (b := 104) hV.1 hM
  have hcp : p_X6_copies (nI pg) (104 : Int32) f = some (zcp f pg 104) := b_copies (b := 104) hg (by decide) (by omega)
  generalize hgd : zcp f pg 104 = g at hC hcp ⊢
  have hk := fa_first_le (fun i => decide (zps T pt yr i = c)) 61
  generalize hq : fa_first (fun i => decide (zps T pt yr i = c)) 61 = q at hk
  have no : ∀ i, i < q → ¬ zps T pt yr i = c := fun i hi => of_decide_eq_false (fa_first_no (fun i => decide (zps T pt yr i = c)) 61 i (by rw [hq]; exact hi))
  have e0 : ((0 : Int32), g) = (fun i => (nI i, zyr g 104 (zps T pt yr i) (yr + i))) 0 := by
    show _ = (nI 0, zyr g 104 pt yr)
    rw [zyr_same hC]; rfl
  have step : ∀ i, i < q → p_X6_comesOn_b9 (nI c) sil (nI i, zyr g 104 (zps T pt yr i) (yr + i)) = some (.inr (nI (i + 1), zyr g 104 (zps T pt yr (i + 1)) (yr + (i + 1)))) := by
    intro i hi
    have h1 := zps_lt hV (yr := yr) hp i
    have M1 := zyr_M hC (zps T pt yr i) (yr + i) hV.1
    unfold p_X6_comesOn_b9
    rw [if_neg (show ¬ (60 : Int32) < nI i from nI_nlt (a := 60) (by omega) (by decide))]
    show (p_X6_pointOn (nI 104) (zyr g 104 (zps T pt yr i) (yr + i))).bind _ = _
    rw [b_point M1 (by decide), zbs, if_neg (nI_ne' (no i hi) (by omega) (by omega))]
    show (p_X6_yearOn (nI 104) sil (zyr g 104 (zps T pt yr i) (yr + i))).bind _ = _
    rw [b_yearI hV hC (by decide) hp (by omega), zbs, nI_1]
  refine ⟨q, ?_⟩
  by_cases c1 : q < 61
  · have yes : zps T pt yr q = c := by
      have := fa_first_yes (fun i => decide (zps T pt yr i = c)) 61 (by rw [hq]; exact c1)
      rw [hq] at this
      exact of_decide_eq_true this
    have M1 := zyr_M hC (zps T pt yr q) (yr + q) hV.1
    have run := z_lp_run (body := p_X6_comesOn_b9 (nI c) sil) (r := .inl (nI q, zyr g 104 (zps T pt yr q) (yr + q))) q (fun i => (nI i, zyr g 104 (zps T pt yr i) (yr + i))) 1000 step ?_ (by omega)
    · unfold p_X6_comesOn zrs
      rw [hcp, zbs, e0, run, if_pos c1]
      rfl
    · show p_X6_comesOn_b9 (nI c) sil (nI q, zyr g 104 (zps T pt yr q) (yr + q)) = _
      unfold p_X6_comesOn_b9
      rw [if_neg (show ¬ (60 : Int32) < nI q from nI_nlt (a := 60) (by omega) (by decide))]
      show (p_X6_pointOn (nI 104) (zyr g 104 (zps T pt yr q) (yr + q))).bind _ = _
      rw [b_point M1 (by decide), zbs, if_pos (by rw [yes])]
  · have hqn : q = 61 := by omega
    have run := z_lp_run (body := p_X6_comesOn_b9 (nI c) sil) (r := .inr (zyr g 104 (zps T pt yr q) (yr + q))) q (fun i => (nI i, zyr g 104 (zps T pt yr i) (yr + i))) 1000 step ?_ (by omega)
    · unfold p_X6_comesOn zrs
      rw [hcp, zbs, e0, run, if_neg c1]
      rfl
    · show p_X6_comesOn_b9 (nI c) sil (nI q, zyr g 104 (zps T pt yr q) (yr + q)) = _
      unfold p_X6_comesOn_b9
      rw [if_pos (show (60 : Int32) < nI q by rw [hqn]; decide)]
end ZS2
theorem zyc_out {f : Nat → Int32} {a p y j : Nat} (h : j < 104) : zyr (zcp f a 104) 104 p y j = f j := by
  rw [zyr_out (Or.inl h), zcp_out (Or.inl h)]
