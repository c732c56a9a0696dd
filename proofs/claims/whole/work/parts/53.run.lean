/-! YEARS: what runs on a town, on both sides -/
def zgl (T : zTn) (pt yr : Nat) : Nat → Nat
  | 0 => zln_ T pt
  | n + 1 => if zgl T pt yr n < zln_ T (zps T pt yr (n + 1)) then zln_ T (zps T pt yr (n + 1)) else zgl T pt yr n
def zmv (T : zTn) (pt yr : Nat) : Nat → Nat
  | 0 => 0
  | n + 1 => if zps T pt yr (n + 1) = zps T pt yr n then zmv T pt yr n else zmv T pt yr n + 1
def zhs (T : zTn) (pt yr : Nat) : Nat → Int32
  | 0 => 0
  | n + 1 => if zho T (zps T pt yr n) (yr + n) = 0 then zhs T pt yr n else zhs T pt yr n ||| ((1 : Int32) <<< (zhc (zho T (zps T pt yr n) (yr + n)) &&& 31))
def zhd (T : zTn) (pt yr i : Nat) : Nat → Nat
  | 0 => 0
  | n + 1 => if zho T (zps T pt yr n) (yr + n) = i + 1 then zhd T pt yr i n + 1 else zhd T pt yr i n
theorem zgl_le {T : zTn} (hV : zV T) {pt yr : Nat} (hp : pt < 100) : ∀ n, zgl T pt yr n ≤ 18
  | 0 => zfar_le hp hV.2.1
  | n + 1 => by
    have ih := zgl_le hV (yr := yr) hp n
    have h1 : zln_ T (zps T pt yr (n + 1)) ≤ 18 := zfar_le (zps_lt hV hp (n + 1)) hV.2.1
    rw [zgl]
    split
    · exact h1
    · exact ih
theorem zmv_le (T : zTn) (pt yr : Nat) : ∀ n, zmv T pt yr n ≤ n
  | 0 => Nat.le_refl 0
  | n + 1 => by
    have ih := zmv_le T pt yr n
    rw [zmv]
    split <;> omega
theorem zhd_le (T : zTn) (pt yr i : Nat) : ∀ n, zhd T pt yr i n ≤ n
  | 0 => Nat.le_refl 0
  | n + 1 => by
    have ih := zhd_le T pt yr i n
    rw [zhd]
    split <;> omega
theorem zhc_m4 {h : Nat} (hh : h < 2 ^ 31) : zhc h = (-4 : Int32) ↔ h = 0 := by
  constructor
  · intro q
    by_cases h0 : h = 0
    · exact h0
    · rw [zhc_s (by omega)] at q
      exact absurd q (nI_m4 (by omega))
  · intro q; rw [q]; rfl
theorem zhc_i {h i : Nat} (hh : h ≤ 5) (hi : i < 5) : zhc h = nI i ↔ h = i + 1 := by
  constructor
  · intro q
    by_cases h0 : h = 0
    · rw [h0] at q
      exact absurd q.symm (nI_m4 (by omega))
    · rw [zhc_s (by omega), nI_eq (by omega) (by omega)] at q
      omega
  · intro q
    rw [q, zhc_s (by omega)]
    rfl
section ZA
variable {T : zTn} {tr : Nat → Int32} {pt yr n : Nat}
theorem a_glean (hV : zV T) (hA : zA T tr) (hp : pt < 100) (hy : yr + n < 2 ^ 30) (hn : n < 1000) : p_X4_greatestLean (nI n) (nI (t_d T)) (nI (t_ft T)) (nI pt) (nI (t_st T)) (nI (t_be T)) (nI yr) tr = some (nI (zgl T pt yr n), nI (zps T pt yr n), nI (yr + n)) := by
  have run := z_lp_run (body := p_X4_greatestLean_b7 (nI n) (nI (t_d T)) (nI (t_ft T)) (nI (t_st T)) (nI (t_be T)) tr) (r := (nI (zgl T pt yr n), nI (zps T pt yr n), nI (yr + n))) n (fun i => (nI (zgl T pt yr i), nI i, nI (zps T pt yr i), nI (yr + i))) 1000 ?_ ?_ hn
  · unfold p_X4_greatestLean
    rw [a_lean hV hp, zbs]
    have e0 : (nI (zln_ T pt), (0 : Int32), nI pt, nI yr) = (fun i => (nI (zgl T pt yr i), nI i, nI (zps T pt yr i), nI (yr + i))) 0 := rfl
    rw [e0, run]
    rfl
  · intro i hi
    have hl : zln_ T (zps T pt yr (i + 1)) ≤ 18 := zfar_le (zps_lt hV hp (i + 1)) hV.2.1
    have hg := zgl_le hV (yr := yr) hp i
    show p_X4_greatestLean_b7 _ _ _ _ _ _ (nI (zgl T pt yr i), nI i, nI (zps T pt yr i), nI (yr + i)) = _
    unfold p_X4_greatestLean_b7
    rw [if_neg (nI_ge hi (by omega))]
    show (p_X4_passYear (nI (t_d T)) (nI (t_ft T)) (nI (zps T pt yr i)) (nI (t_st T)) (nI (t_be T)) (nI (yr + i)) tr).bind _ = _
    rw [a_year hV hA (zps_lt hV hp i) (by omega), zbs]
    show (p_X4_lean (nI (t_ft T)) (nI (zps T pt yr (i + 1)))).bind _ = _
    rw [a_lean hV (zps_lt hV hp (i + 1)), zbs]
    show some (Sum.inr ((if nI (zgl T pt yr i) < nI (zln_ T (zps T pt yr (i + 1))) then nI (zln_ T (zps T pt yr (i + 1))) else nI (zgl T pt yr i)), nI i + 1, nI (zps T pt yr (i + 1)), nI (yr + i + 1))) = some (Sum.inr (nI (zgl T pt yr (i + 1)), nI (i + 1), nI (zps T pt yr (i + 1)), nI (yr + (i + 1))))
    rw [nI_1, zgl]
    by_cases q : zgl T pt yr i < zln_ T (zps T pt yr (i + 1))
    · rw [if_pos (nI_lt q (by omega)), if_pos q]; rfl
    · rw [if_neg (nI_nlt (by omega) (by omega)), if_neg q]; rfl
  · show p_X4_greatestLean_b7 _ _ _ _ _ _ (nI (zgl T pt yr n), nI n, nI (zps T pt yr n), nI (yr + n)) = _
    unfold p_X4_greatestLean_b7
    rw [if_pos (nI_le (Nat.le_refl _) (by omega))]
theorem a_moves (hV : zV T) (hA : zA T tr) (hp : pt < 100) (hy : yr + n < 2 ^ 30) (hn : n < 1000) : p_X4_movesIn (nI n) (nI (t_d T)) (nI (t_ft T)) (nI pt) (nI (t_st T)) (nI (t_be T)) (nI yr) tr = some (nI (zmv T pt yr n), nI (zps T pt yr n), nI (yr + n)) := by
  have run := z_lp_run (body := p_X4_movesIn_b4 (nI n) (nI (t_d T)) (nI (t_ft T)) (nI (t_st T)) (nI (t_be T)) tr) (r := (nI (zmv T pt yr n), nI (zps T pt yr n), nI (yr + n))) n (fun i => (nI (zmv T pt yr i), nI i, nI (zps T pt yr i), nI (yr + i))) 1000 ?_ ?_ hn
  · unfold p_X4_movesIn
    have e0 : ((0 : Int32), (0 : Int32), nI pt, nI yr) = (fun i => (nI (zmv T pt yr i), nI i, nI (zps T pt yr i), nI (yr + i))) 0 := rfl
    rw [e0, run]
    rfl
  · intro i hi
    have h1 := zps_lt hV (yr := yr) hp i
    have h2 := zps_lt hV (yr := yr) hp (i + 1)
    show p_X4_movesIn_b4 _ _ _ _ _ _ (nI (zmv T pt yr i), nI i, nI (zps T pt yr i), nI (yr + i)) = _
    unfold p_X4_movesIn_b4
    rw [if_neg (nI_ge hi (by omega))]
    show (p_X4_passYear (nI (t_d T)) (nI (t_ft T)) (nI (zps T pt yr i)) (nI (t_st T)) (nI (t_be T)) (nI (yr + i)) tr).bind _ = _
    rw [a_year hV hA h1 (by omega), zbs]
    show (if nI (zps T pt yr (i + 1)) = nI (zps T pt yr i) then some (Sum.inr (nI (zmv T pt yr i), nI i + 1, nI (zps T pt yr (i + 1)), nI (yr + i + 1))) else some (Sum.inr (nI (zmv T pt yr i) + 1, nI i + 1, nI (zps T pt yr (i + 1)), nI (yr + i + 1)))) = some (Sum.inr (nI (zmv T pt yr (i + 1)), nI (i + 1), nI (zps T pt yr (i + 1)), nI (yr + (i + 1))))
    rw [nI_1, nI_1, zmv]
    by_cases q : zps T pt yr (i + 1) = zps T pt yr i
    · rw [if_pos (by rw [q]), if_pos q]; rfl
    · rw [if_neg (fun z => q ((nI_eq (by omega) (by omega)).mp z)), if_neg q]; rfl
  · show p_X4_movesIn_b4 _ _ _ _ _ _ (nI (zmv T pt yr n), nI n, nI (zps T pt yr n), nI (yr + n)) = _
    unfold p_X4_movesIn_b4
    rw [if_pos (nI_le (Nat.le_refl _) (by omega))]
theorem a_holders (hV : zV T) (hA : zA T tr) (hp : pt < 100) (hy : yr + n < 2 ^ 30) (hn : n < 1000) : p_X4_holdersIn (nI n) (nI (t_d T)) (nI (t_ft T)) (nI pt) (nI (t_st T)) (nI (t_be T)) (nI yr) tr = some (zhs T pt yr n, nI (zps T pt yr n), nI (yr + n)) := by
  have hd := hV.1
  have run := z_lp_run (body := p_X4_holdersIn_b4 (nI n) (nI (t_d T)) (nI (t_ft T)) (nI (t_st T)) (nI (t_be T)) tr) (r := (zhs T pt yr n, nI (zps T pt yr n), nI (yr + n))) n (fun i => (zhs T pt yr i, nI i, nI (zps T pt yr i), nI (yr + i))) 1000 ?_ ?_ hn
  · unfold p_X4_holdersIn
    have e0 : ((0 : Int32), (0 : Int32), nI pt, nI yr) = (fun i => (zhs T pt yr i, nI i, nI (zps T pt yr i), nI (yr + i))) 0 := rfl
    rw [e0, run]
    rfl
  · intro i hi
    have h1 := zps_lt hV (yr := yr) hp i
    have hle := zho_le T (zps T pt yr i) (yr + i)
    show p_X4_holdersIn_b4 _ _ _ _ _ _ (zhs T pt yr i, nI i, nI (zps T pt yr i), nI (yr + i)) = _
    unfold p_X4_holdersIn_b4
    rw [if_neg (nI_ge hi (by omega))]
    show (p_X4_passYear (nI (t_d T)) (nI (t_ft T)) (nI (zps T pt yr i)) (nI (t_st T)) (nI (t_be T)) (nI (yr + i)) tr).bind _ = _
    rw [a_year hV hA h1 (by omega), zbs]
    show (if zhc (zho T (zps T pt yr i) (yr + i)) = (-4 : Int32) then some (Sum.inr (zhs T pt yr i, nI i + 1, nI (zps T pt yr (i + 1)), nI (yr + i + 1))) else some (Sum.inr (zhs T pt yr i ||| ((1 : Int32) <<< (zhc (zho T (zps T pt yr i) (yr + i)) &&& 31)), nI i + 1, nI (zps T pt yr (i + 1)), nI (yr + i + 1)))) = some (Sum.inr (zhs T pt yr (i + 1), nI (i + 1), nI (zps T pt yr (i + 1)), nI (yr + (i + 1))))
    rw [nI_1, zhs]
    by_cases q : zho T (zps T pt yr i) (yr + i) = 0
    · rw [if_pos ((zhc_m4 (by omega)).mpr q), if_pos q]; rfl
    · rw [if_neg (fun z => q ((zhc_m4 (by omega)).mp z)), if_neg q]; rfl
  · show p_X4_holdersIn_b4 _ _ _ _ _ _ (zhs T pt yr n, nI n, nI (zps T pt yr n), nI (yr + n)) = _
    unfold p_X4_holdersIn_b4
    rw [if_pos (nI_le (Nat.le_refl _) (by omega))]
theorem a_held (hV : zV T) (hA : zA T tr) (hp : pt < 100) (hy : yr + n < 2 ^ 30) (hn : n < 1000) {j : Nat} (hj : j < 5) : p_X4_yearsHeldBy (nI j) (nI n) (nI (t_d T)) (nI (t_ft T)) (nI pt) (nI (t_st T)) (nI (t_be T)) (nI yr) tr = some (nI (zhd T pt yr j n), nI (zps T pt yr n), nI (yr + n)) := by
  have hd := hV.1
  have run := z_lp_run (body := p_X4_yearsHeldBy_b5 (nI n) (nI (t_d T)) (nI (t_ft T)) (nI (t_st T)) (nI (t_be T)) tr (nI j)) (r := (nI (zhd T pt yr j n), nI (zps T pt yr n), nI (yr + n))) n (fun i => (nI (zhd T pt yr j i), nI i, nI (zps T pt yr i), nI (yr + i))) 1000 ?_ ?_ hn
  · unfold p_X4_yearsHeldBy
    have e0 : ((0 : Int32), (0 : Int32), nI pt, nI yr) = (fun i => (nI (zhd T pt yr j i), nI i, nI (zps T pt yr i), nI (yr + i))) 0 := rfl
    rw [e0, run]
    rfl
  · intro i hi
    have h1 := zps_lt hV (yr := yr) hp i
    have hle := zho_le T (zps T pt yr i) (yr + i)
    show p_X4_yearsHeldBy_b5 _ _ _ _ _ _ _ (nI (zhd T pt yr j i), nI i, nI (zps T pt yr i), nI (yr + i)) = _
    unfold p_X4_yearsHeldBy_b5
    rw [if_neg (nI_ge hi (by omega))]
    show (p_X4_passYear (nI (t_d T)) (nI (t_ft T)) (nI (zps T pt yr i)) (nI (t_st T)) (nI (t_be T)) (nI (yr + i)) tr).bind _ = _
    rw [a_year hV hA h1 (by omega), zbs]
    show (if zhc (zho T (zps T pt yr i) (yr + i)) = nI j then some (Sum.inr (nI (zhd T pt yr j i) + 1, nI i + 1, nI (zps T pt yr (i + 1)), nI (yr + i + 1))) else some (Sum.inr (nI (zhd T pt yr j i), nI i + 1, nI (zps T pt yr (i + 1)), nI (yr + i + 1)))) = some (Sum.inr (nI (zhd T pt yr j (i + 1)), nI (i + 1), nI (zps T pt yr (i + 1)), nI (yr + (i + 1))))
    rw [nI_1, nI_1, zhd]
    by_cases q : zho T (zps T pt yr i) (yr + i) = j + 1
    · rw [if_pos ((zhc_i (by omega) hj).mpr q), if_pos q]; rfl
    · rw [if_neg (fun z => q ((zhc_i (by omega) hj).mp z)), if_neg q]; rfl
  · show p_X4_yearsHeldBy_b5 _ _ _ _ _ _ _ (nI (zhd T pt yr j n), nI n, nI (zps T pt yr n), nI (yr + n)) = _
    unfold p_X4_yearsHeldBy_b5
    rw [if_pos (nI_le (Nat.le_refl _) (by omega))]
/-- the first year (of the first N) that does p; N: none -/
def zrs (k N : Nat) : Int32 := if k < N then nI k else -4
theorem a_to (hV : zV T) (hA : zA T tr) (hp : pt < 100) (hy : yr + n < 2 ^ 29) (hn : n < 900) {c : Nat} (hc : c < 100) : ∃ a b, p_X4_yearsTo (nI c) (nI n) (nI (t_d T)) (nI (t_ft T)) (nI pt) (nI (t_st T)) (nI (t_be T)) (nI yr) tr = some (zrs (fa_first (fun i => decide (zps T pt yr i = c)) (n + 1)) (n + 1), a, b) := by
  have hk := fa_first_le (fun i => decide (zps T pt yr i = c)) (n + 1)
  generalize hq : fa_first (fun i => decide (zps T pt yr i = c)) (n + 1) = q at hk
  have no : ∀ i, i < q → ¬ zps T pt yr i = c := fun i hi => of_decide_eq_false (fa_first_no (fun i => decide (zps T pt yr i = c)) (n + 1) i (by rw [hq]; exact hi))
  have step : ∀ i, i < q → p_X4_yearsTo_b2 (nI n) (nI c) (nI (t_d T)) (nI (t_ft T)) (nI (t_st T)) (nI (t_be T)) tr (nI i, nI (zps T pt yr i), nI (yr + i)) = some (.inr (nI (i + 1), nI (zps T pt yr (i + 1)), nI (yr + (i + 1)))) := by
    intro i hi
    have h1 := zps_lt hV (yr := yr) hp i
    unfold p_X4_yearsTo_b2
    rw [if_neg (nI_nlt (by omega) (by omega))]
    show (if nI (zps T pt yr i) = nI c then _ else (p_X4_passYear (nI (t_d T)) (nI (t_ft T)) (nI (zps T pt yr i)) (nI (t_st T)) (nI (t_be T)) (nI (yr + i)) tr).bind _) = _
    rw [if_neg (fun z => no i hi ((nI_eq (by omega) (by omega)).mp z)), a_year hV hA h1 (by omega), zbs, nI_1]
    rfl
  by_cases c1 : q < n + 1
  · have yes : zps T pt yr q = c := by
      have := fa_first_yes (fun i => decide (zps T pt yr i = c)) (n + 1) (by rw [hq]; exact c1)
      rw [hq] at this
      exact of_decide_eq_true this
    have run := z_lp_run (body := p_X4_yearsTo_b2 (nI n) (nI c) (nI (t_d T)) (nI (t_ft T)) (nI (t_st T)) (nI (t_be T)) tr) (r := .inl (nI q, nI (zps T pt yr q), nI (yr + q))) q (fun i => (nI i, nI (zps T pt yr i), nI (yr + i))) 1000 step ?_ (by omega)
    · refine ⟨nI (zps T pt yr q), nI (yr + q), ?_⟩
      unfold p_X4_yearsTo zrs
      have e0 : ((0 : Int32), nI pt, nI yr) = (fun i => (nI i, nI (zps T pt yr i), nI (yr + i))) 0 := rfl
      rw [e0, run, if_pos c1]
      rfl
    · show p_X4_yearsTo_b2 _ _ _ _ _ _ _ (nI q, nI (zps T pt yr q), nI (yr + q)) = _
      unfold p_X4_yearsTo_b2
      rw [if_neg (nI_nlt (by omega) (by omega)), if_pos (by rw [← yes])]
  · have hqn : q = n + 1 := by omega
    have run := z_lp_run (body := p_X4_yearsTo_b2 (nI n) (nI c) (nI (t_d T)) (nI (t_ft T)) (nI (t_st T)) (nI (t_be T)) tr) (r := .inr (nI (zps T pt yr q), nI (yr + q))) q (fun i => (nI i, nI (zps T pt yr i), nI (yr + i))) 1000 step ?_ (by omega)
    · refine ⟨nI (zps T pt yr q), nI (yr + q), ?_⟩
      unfold p_X4_yearsTo zrs
      have e0 : ((0 : Int32), nI pt, nI yr) = (fun i => (nI i, nI (zps T pt yr i), nI (yr + i))) 0 := rfl
      rw [e0, run, if_neg c1]
      rfl
    · show p_X4_yearsTo_b2 _ _ _ _ _ _ _ (nI q, nI (zps T pt yr q), nI (yr + q)) = _
      unfold p_X4_yearsTo_b2
      rw [if_pos (nI_lt (by omega) (by omega))]
end ZA
