/-! ARGUMENTS: what both sides say of a number and its bounds -/
theorem lg_lt0 {x y : Int64} : lg_cmp x y < 0 ↔ x < y := by
  unfold lg_cmp
  by_cases h : x > y
  · rw [if_pos h]
    constructor
    · intro q; exact absurd q (by decide)
    · intro q; exact absurd (Int64.lt_trans q h) (fun z => Int64.lt_irrefl z)
  · rw [if_neg h]
    by_cases e : x = y
    · rw [if_pos e]
      constructor
      · intro q; exact absurd q (by decide)
      · intro q; rw [e] at q; exact absurd q (fun z => Int64.lt_irrefl z)
    · rw [if_neg e]
      constructor
      · intro _
        rcases Int64.lt_or_lt_of_ne e with q | q
        · exact q
        · exact absurd q h
      · intro _; decide
theorem lg_gt0 {x y : Int64} : 0 < lg_cmp x y ↔ y < x := by
  unfold lg_cmp
  by_cases h : x > y
  · rw [if_pos h]
    exact ⟨fun _ => h, fun _ => by decide⟩
  · rw [if_neg h]
    by_cases e : x = y
    · rw [if_pos e]
      constructor
      · intro q; exact absurd q (by decide)
      · intro q; exact absurd q h
    · rw [if_neg e]
      constructor
      · intro q; exact absurd q (by decide)
      · intro q; exact absurd q h
theorem zx_lt (x y : Int32) : x < y ↔ x.toInt < y.toInt := Int32.lt_iff_toInt_lt
theorem zx_le (x y : Int32) : x ≤ y ↔ x.toInt ≤ y.toInt := Int32.le_iff_toInt_le
theorem zx_ltL (x y : Int64) : x < y ↔ x.toInt < y.toInt := Int64.lt_iff_toInt_lt
theorem zx_l (x : Int32) : x.toInt64.toInt = x.toInt := Int32.toInt_toInt64 x
/-- x lies in lo .. hi, for both; or it does not, for both -/
theorem arg_in (x : Int32) {lo hi : Nat} (h : hi < 2 ^ 31) (h0 : lo ≤ hi) : (∃ j, lo ≤ j ∧ j ≤ hi ∧ x = nI j ∧ p_X5_within x (nI lo) (nI hi) = some 1 ∧ p_X6_in x.toInt64 (lN lo) (lN hi) = some 1) ∨ (p_X5_within x (nI lo) (nI hi) = some 0 ∧ p_X6_in x.toInt64 (lN lo) (lN hi) = some 0 ∧ ¬ ∃ j, lo ≤ j ∧ j ≤ hi ∧ x = nI j) := by
  have el : (lN lo).toInt = (lo : Int) := pk_lT (by omega)
  have eh : (lN hi).toInt = (hi : Int) := pk_lT (by omega)
  have il : lo < 2 ^ 31 → (nI lo).toInt = (lo : Int) := fun q => nI_toInt q
  have ih : (nI hi).toInt = (hi : Int) := nI_toInt h
  by_cases hlo : lo < 2 ^ 31
  · by_cases c1 : x < nI lo
    · right
      have c1' := (zx_lt _ _).mp c1
      rw [il hlo] at c1'
      refine ⟨by unfold p_X5_within; rw [if_pos c1], ?_, ?_⟩
      · unfold p_X6_in
        rw [if_pos (lg_lt0.mpr ((zx_ltL _ _).mpr (by rw [zx_l, el]; exact c1')))]
      · rintro ⟨j, h1, h2, rfl⟩
        rw [nI_toInt (by omega)] at c1'
        omega
    · by_cases c2 : nI hi < x
      · right
        have c2' := (zx_lt _ _).mp c2
        rw [ih] at c2'
        have n1 : ¬ lg_cmp x.toInt64 (lN lo) < 0 := by
          rw [lg_lt0, zx_ltL, zx_l, el]
          have := fun q => c1 ((zx_lt _ _).mpr q)
          rw [il hlo] at this
          exact this
        refine ⟨by unfold p_X5_within; rw [if_neg c1, if_pos c2], ?_, ?_⟩
        · unfold p_X6_in
          rw [if_neg n1, if_pos (lg_gt0.mpr ((zx_ltL _ _).mpr (by rw [zx_l, eh]; exact c2')))]
        · rintro ⟨j, h1, h2, rfl⟩
          rw [nI_toInt (by omega)] at c2'
          omega
      · left
        have d1 : ¬ x.toInt < (lo : Int) := fun q => c1 ((zx_lt _ _).mpr (by rw [il hlo]; exact q))
        have d2 : ¬ (hi : Int) < x.toInt := fun q => c2 ((zx_lt _ _).mpr (by rw [ih]; exact q))
        have n1 : ¬ lg_cmp x.toInt64 (lN lo) < 0 := by
          rw [lg_lt0, zx_ltL, zx_l, el]; exact d1
        have n2 : ¬ 0 < lg_cmp x.toInt64 (lN hi) := by
          rw [lg_gt0, zx_ltL, zx_l, eh]; exact d2
        have h00 : (0 : Int32).toInt = 0 := by decide
        have nx : ¬ x < 0 := by rw [zx_lt, h00]; omega
        obtain ⟨j, hj, rfl⟩ := nI_of nx
        rw [nI_toInt hj] at d1 d2
        exact ⟨j, by omega, by omega, rfl, by unfold p_X5_within; rw [if_neg c1, if_neg c2], by unfold p_X6_in; rw [if_neg n1, if_neg n2]⟩
  · omega
