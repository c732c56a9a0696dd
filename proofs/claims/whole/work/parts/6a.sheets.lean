/-! COUNT, SHEETS -/
theorem arg_sheet (x : Int32) : (∃ j, j ≤ 3 ∧ x = nI j ∧ p_X5_isSheet x = some 1 ∧ p_X6_in x.toInt64 (0 : Int64) (3 : Int64) = some 1) ∨ (p_X5_isSheet x = some 0 ∧ p_X6_in x.toInt64 (0 : Int64) (3 : Int64) = some 0) := by
  rcases arg_in x (lo := 0) (hi := 3) (by decide) (by decide) with ⟨j, -, hj, e, h1, h2⟩ | ⟨h1, h2, h3⟩
  · left
    have h1' : p_X5_within x (0 : Int32) (3 : Int32) = some 1 := h1
    refine ⟨j, hj, e, ?_, h2⟩
    unfold p_X5_isSheet; rw [h1', zbs, bit1]; rfl
  · right
    have h1' : p_X5_within x (0 : Int32) (3 : Int32) = some 0 := h1
    refine ⟨?_, h2⟩
    unfold p_X5_isSheet; rw [h1', zbs, bit0]; rfl
theorem arg_lane (x : Int32) : (∃ j, j ≤ 2 ∧ x = nI j ∧ p_X5_isLane x = some 1 ∧ p_X6_in x.toInt64 (0 : Int64) (2 : Int64) = some 1) ∨ (p_X5_isLane x = some 0 ∧ p_X6_in x.toInt64 (0 : Int64) (2 : Int64) = some 0) := by
  rcases arg_in x (lo := 0) (hi := 2) (by decide) (by decide) with ⟨j, -, hj, e, h1, h2⟩ | ⟨h1, h2, h3⟩
  · left
    have h1' : p_X5_within x (0 : Int32) (2 : Int32) = some 1 := h1
    refine ⟨j, hj, e, ?_, h2⟩
    unfold p_X5_isLane; rw [h1', zbs, bit1]; rfl
  · right
    have h1' : p_X5_within x (0 : Int32) (2 : Int32) = some 0 := h1
    refine ⟨?_, h2⟩
    unfold p_X5_isLane; rw [h1', zbs, bit0]; rfl
def zpa (T : zTn) : Nat → Nat
  | 0 => 0
  | n + 1 => zpa T n + t_pl T n
def zdw (T : zTn) (yr : Nat) : Nat → Nat
  | 0 => 0
  | n + 1 => if yr < t_si T n then zdw T yr n else zdw T yr n + 1
theorem a_pulls {T : zTn} {tr : Nat → Int32} (hV : zV T) (hA : zA T tr) : p_X4_pullOfAll (nI (t_d T)) tr = some (nI (zpa T (t_d T))) := by
  have hd := hV.1
  have run := z_lp_run (body := p_X4_pullOfAll_b4 (nI (t_d T)) tr) (r := nI (zpa T (t_d T))) (t_d T) (fun i => (nI (zpa T i), nI i)) 1000 ?_ ?_ (by omega)
  · have e0 : ((0 : Int32), (0 : Int32)) = (fun i => (nI (zpa T i), nI i)) 0 := rfl
    unfold p_X4_pullOfAll
    rw [e0, run]
    rfl
  · intro i hi
    try dsimp only
    unfold p_X4_pullOfAll_b4
    try dsimp only
    rw [if_neg (nI_ge hi (by omega)), zi1, a_trait (T := T) (by omega) (by decide), (hA i hi).2.1, zbs, nI_add, nI_add]
    rfl
  · try dsimp only
    unfold p_X4_pullOfAll_b4
    try dsimp only
    rw [if_pos (nI_le (Nat.le_refl _) (by omega))]
theorem a_drawing {T : zTn} {tr : Nat → Int32} {yr : Nat} (hV : zV T) (hA : zA T tr) (hy : yr ≤ 999) : p_X4_drawing (nI (t_d T)) (nI yr) tr = some (nI (zdw T yr (t_d T))) := by
  have hd := hV.1
  have run := z_lp_run (body := p_X4_drawing_b4 (nI (t_d T)) tr (nI yr)) (r := nI (zdw T yr (t_d T))) (t_d T) (fun i => (nI (zdw T yr i), nI i)) 1000 ?_ ?_ (by omega)
  · have e0 : ((0 : Int32), (0 : Int32)) = (fun i => (nI (zdw T yr i), nI i)) 0 := rfl
    unfold p_X4_drawing
    rw [e0, run]
    rfl
  · intro i hi
    have hs := (hV.2.2.2.2 i hi).2.2.2
    try dsimp only
    unfold p_X4_drawing_b4
    try dsimp only
    rw [if_neg (nI_ge hi (by omega)), zi3, a_trait (T := T) (by omega) (by decide), (hA i hi).2.2.2, zbs, nI_1, nI_1, zdw]
    by_cases q : yr < t_si T i
    · rw [if_pos (nI_lt q (by omega)), if_pos q]
    · rw [if_neg (nI_nlt' q (by omega)), if_neg q]
  · try dsimp only
    unfold p_X4_drawing_b4
    try dsimp only
    rw [if_pos (nI_le (Nat.le_refl _) (by omega))]
theorem b_count {T : zTn} {f : Nat → Int32} {pt yr : Nat} (hV : zV T) (hM : zM T f 0 (-4) pt yr) (hy : yr ≤ 999) : z_lp (p_X6_count_b7 f) 1000 ((0 : Int32), (0 : Int32), (0 : Int32)) = some (nI (zpa T (t_d T)), nI (zdw T yr (t_d T))) := by
  have hd := hV.1
  have g20 : z_get f 156 (20 : Int32) = some (nI (t_d T)) := by rw [← hM.1]; exact z_get_n (i := 20) (by decide) (by decide)
  have g25 : z_get f 156 (25 : Int32) = some (nI yr) := (z_get_e 25 rfl (by decide) (by decide)).trans (congrArg some hM.2.2.2.2.2.1)
  have run := z_lp_run (body := p_X6_count_b7 f) (r := (nI (zpa T (t_d T)), nI (zdw T yr (t_d T)))) (t_d T) (fun i => (nI (zpa T i), nI (zdw T yr i), nI i)) 1000 ?_ ?_ (by omega)
  · have e0 : ((0 : Int32), (0 : Int32), (0 : Int32)) = (fun i => (nI (zpa T i), nI (zdw T yr i), nI i)) 0 := rfl
    rw [e0, run]
  · intro i hi
    have hs := (hV.2.2.2.2 i hi).2.2.2
    have q := hM.2.2.2.2.2.2 i hi
    try dsimp only
    unfold p_X6_count_b7
    try dsimp only
    rw [g20, zbs, if_neg (nI_ge hi (by omega)), z_get_e (0 + 5 + i) (by rw [zi5, nI_add]) (by omega) (by decide), zbs, q.2.1, g25, zbs, z_get_e (0 + 15 + i) (by rw [zi15, nI_add]) (by omega) (by decide), zbs, q.2.2.2.2 (nI_m4 (by omega)), nI_add, nI_1, nI_1, zadd0, zdw]
    by_cases q : yr < t_si T i
    · rw [if_pos (nI_lt q (by omega)), if_pos q]
      rfl
    · rw [if_neg (nI_nlt' q (by omega)), if_neg q]
      rfl
  · try dsimp only
    unfold p_X6_count_b7
    try dsimp only
    rw [g20, zbs, if_pos (nI_le (Nat.le_refl _) (by omega))]
theorem a_kept {x : Nat → Int32} (h0 : x 0 = 0 ∨ x 0 = 1) (h1 : x 1 = 0 ∨ x 1 = 1) : p_X5_imagesKept x = some (x 0 + x 1) := by
  have run := z_lp_run (body := p_X5_imagesKept_b4 x) (r := x 0 + x 1) 2 (fun i => if i = 0 then ((0 : Int32), (0 : Int32)) else if i = 1 then (x 0, (1 : Int32)) else (x 0 + x 1, (2 : Int32))) 1000 ?_ ?_ (by decide)
  · unfold p_X5_imagesKept
    have e0 : ((0 : Int32), (0 : Int32)) = (fun i => if i = 0 then ((0 : Int32), (0 : Int32)) else if i = 1 then (x 0, (1 : Int32)) else (x 0 + x 1, (2 : Int32))) 0 := rfl
    rw [e0, run]
    rfl
  · intro i hi
    rcases (show i = 0 ∨ i = 1 by omega) with rfl | rfl
    · show p_X5_imagesKept_b4 x ((0 : Int32), (0 : Int32)) = some (Sum.inr (x 0, (1 : Int32)))
      unfold p_X5_imagesKept_b4
      try dsimp only
      rw [if_neg (show ¬ (2 : Int32) ≤ 0 by decide), z_get_e 0 (show (0 : Int32) = nI 0 from rfl) (by decide) (by decide), zbs]
      rcases h0 with e | e
      · rw [e, if_pos rfl]; rfl
      · rw [e, if_neg z1n0]; rfl
    · show p_X5_imagesKept_b4 x (x 0, (1 : Int32)) = some (Sum.inr (x 0 + x 1, (2 : Int32)))
      unfold p_X5_imagesKept_b4
      try dsimp only
      rw [if_neg (show ¬ (2 : Int32) ≤ 1 by decide), z_get_e 1 (show (1 : Int32) = nI 1 from rfl) (by decide) (by decide), zbs]
      rcases h1 with e | e
      · rw [e, if_pos rfl, zadd0]; rfl
      · rw [e, if_neg z1n0]; rfl
  · show p_X5_imagesKept_b4 x (x 0 + x 1, (2 : Int32)) = _
    unfold p_X5_imagesKept_b4
    try dsimp only
    rw [if_pos (show (2 : Int32) ≤ 2 by decide)]
/-- a sheet that is made anew -/
def zzr (f : Nat → Int32) (a n : Nat) : Nat → Int32 := fun j => if a ≤ j ∧ j < a + n then 0 else f j
theorem zzr_0 (f : Nat → Int32) (a : Nat) : zzr f a 0 = f := by
  funext j; unfold zzr; rw [if_neg (by omega)]
theorem zzr_s (f : Nat → Int32) (a n : Nat) : upd (zzr f a n) (a + n) 0 = zzr f a (n + 1) := by
  funext j
  unfold upd zzr
  by_cases e : j = a + n
  · rw [if_pos e, if_pos (by omega)]
  · rw [if_neg e]
    by_cases c : a ≤ j ∧ j < a + n
    · rw [if_pos c, if_pos (by omega)]
    · rw [if_neg c, if_neg (by omega)]
theorem a_renew {cs : Nat → Int32} {u v : Int32} : p_X1_renew u v cs = some (u, v, zzr cs 0 40) := by
  have run := z_lp_run (body := p_X1_renew_b12) (r := zzr cs 0 40) 40 (fun i => (nI i, zzr cs 0 i)) 1000 ?_ ?_ (by decide)
  · unfold p_X1_renew
    have e0 : ((0 : Int32), cs) = (fun i => (nI i, zzr cs 0 i)) 0 := by
      show _ = (nI 0, zzr cs 0 0)
      rw [zzr_0]; rfl
    rw [e0, run]
    rfl
  · intro i hi
    try dsimp only
    unfold p_X1_renew_b12
    try dsimp only
    rw [if_neg (show ¬ (40 : Int32) ≤ nI i from nI_ge (b := 40) hi (by decide)), z_set_e (0 + i) (congrArg nI (by omega)) (by omega) (by decide), zbs, zzr_s, nI_1]
  · try dsimp only
    unfold p_X1_renew_b12
    try dsimp only
    rw [if_pos (show (40 : Int32) ≤ nI 40 by decide)]
theorem b_renew {f : Nat → Int32} {k : Nat} (hk : k ≤ 3) : z_lp (p_X6_sheet_b56 (nI k)) 1000 ((0 : Int32), f) = some (zzr f (40 * k) 40) := by
  have run := z_lp_run (body := p_X6_sheet_b56 (nI k)) (r := zzr f (40 * k) 40) 40 (fun i => (nI i, zzr f (40 * k) i)) 1000 ?_ ?_ (by decide)
  · have e0 : ((0 : Int32), f) = (fun i => (nI i, zzr f (40 * k) i)) 0 := by
      show _ = (nI 0, zzr f (40 * k) 0)
      rw [zzr_0]; rfl
    rw [e0, run]
  · intro i hi
    try dsimp only
    unfold p_X6_sheet_b56
    try dsimp only
    rw [if_neg (show ¬ (40 : Int32) ≤ nI i from nI_ge (b := 40) hi (by decide)), z_set_e (40 * k + i) (by rw [show (40 : Int32) = nI 40 from rfl, pk_mul, nI_add]) (by omega) (by decide), zbs, zzr_s, nI_1]
  · try dsimp only
    unfold p_X6_sheet_b56
    try dsimp only
    rw [if_pos (show (40 : Int32) ≤ nI 40 by decide)]
theorem zSh_keep {l s : Int32} {cs : Nat → Int32} {ml mn : Int32} {mc : Nat → Int32} {ml' mn' : Int32} {mc' : Nat → Int32} (h : zSh l s cs ml mn mc) (e1 : ml' = ml) (e2 : mn' = mn) (e3 : ∀ i, i < 40 → mc' i = mc i) : zSh l s cs ml' mn' mc' := by
  rw [e1, e2]
  exact ⟨h.1, fun i hi => (h.2 i hi).trans (e3 i hi).symm⟩
theorem zSh_new {cs mc : Nat → Int32} {t n : Nat} (ht : t ≤ 2) (hn : n ≤ 40) (h1 : ∀ i, i < 40 → cs i = 0) (h2 : ∀ i, i < 40 → mc i = 0) : zSh (nI t) (nI n) cs (nI t) (nI n) mc := ⟨Or.inr ⟨t, n, by omega, hn, rfl, rfl, rfl, rfl⟩, fun i hi => (h1 i hi).trans (h2 i hi).symm⟩
theorem zzr_in {f : Nat → Int32} {a n j : Nat} (h : a ≤ j ∧ j < a + n) : zzr f a n j = 0 := if_pos h
theorem zzr_out {f : Nat → Int32} {a n j : Nat} (h : ¬ (a ≤ j ∧ j < a + n)) : zzr f a n j = f j := if_neg h
theorem byte_sh (x : Int32) : (x <<< ((24 : Int32) &&& 31)) >>> ((24 : Int32) &&& 31) = x.toInt8.toInt32 := by
  apply Int32.toBitVec_inj.mp
  have e : ((24 : Int32) &&& 31).toBitVec.smod 32 = 24#32 := by decide
  rw [Int32.toBitVec_shiftRight, Int32.toBitVec_shiftLeft, e, Int8.toBitVec_toInt32, Int32.toBitVec_toInt8]
  apply BitVec.eq_of_getLsbD_eq
  intro i hi
  have t : (24#32).toNat = 24 := by decide
  have hm : (x.toBitVec.signExtend 8).msb = x.toBitVec.getLsbD 7 := by
    rw [BitVec.msb_eq_getLsbD_last, BitVec.getLsbD_signExtend, decide_eq_true (show 8 - 1 < 8 by decide), if_pos (show 8 - 1 < 32 by decide)]; rfl
  have hm2 : (x.toBitVec <<< (24#32)).msb = x.toBitVec.getLsbD 7 := by
    rw [BitVec.msb_eq_getLsbD_last, BitVec.shiftLeft_eq', t, BitVec.getLsbD_shiftLeft, decide_eq_true (show 32 - 1 < 32 by decide), decide_eq_false (show ¬ 32 - 1 < 24 by decide)]; rfl
  rw [BitVec.getLsbD_sshiftRight', hm2, BitVec.getLsbD_signExtend, hm, BitVec.getLsbD_signExtend, t]
  by_cases c : i < 8
  · rw [if_pos (show 24 + i < 32 by omega), BitVec.shiftLeft_eq', t, BitVec.getLsbD_shiftLeft, if_pos c, if_pos hi, show 24 + i - 24 = i by omega, decide_eq_true (show 24 + i < 32 by omega), decide_eq_false (show ¬ 24 + i < 24 by omega), decide_eq_true hi, decide_eq_true c, decide_eq_false (show ¬ 32 ≤ i by omega)]; rfl
  · rw [if_neg (show ¬ 24 + i < 32 by omega), if_neg c, decide_eq_true hi, decide_eq_false (show ¬ 32 ≤ i by omega)]; rfl
theorem short_sh (x : Int32) : (x <<< ((16 : Int32) &&& 31)) >>> ((16 : Int32) &&& 31) = x.toInt16.toInt32 := by
  apply Int32.toBitVec_inj.mp
  have e : ((16 : Int32) &&& 31).toBitVec.smod 32 = 16#32 := by decide
  rw [Int32.toBitVec_shiftRight, Int32.toBitVec_shiftLeft, e, Int16.toBitVec_toInt32, Int32.toBitVec_toInt16]
  apply BitVec.eq_of_getLsbD_eq
  intro i hi
  have t : (16#32).toNat = 16 := by decide
  have hm : (x.toBitVec.signExtend 16).msb = x.toBitVec.getLsbD 15 := by
    rw [BitVec.msb_eq_getLsbD_last, BitVec.getLsbD_signExtend, decide_eq_true (show 16 - 1 < 16 by decide), if_pos (show 16 - 1 < 32 by decide)]; rfl
  have hm2 : (x.toBitVec <<< (16#32)).msb = x.toBitVec.getLsbD 15 := by
    rw [BitVec.msb_eq_getLsbD_last, BitVec.shiftLeft_eq', t, BitVec.getLsbD_shiftLeft, decide_eq_true (show 32 - 1 < 32 by decide), decide_eq_false (show ¬ 32 - 1 < 16 by decide)]; rfl
  rw [BitVec.getLsbD_sshiftRight', hm2, BitVec.getLsbD_signExtend, hm, BitVec.getLsbD_signExtend, t]
  by_cases c : i < 16
  · rw [if_pos (show 16 + i < 32 by omega), BitVec.shiftLeft_eq', t, BitVec.getLsbD_shiftLeft, if_pos c, if_pos hi, show 16 + i - 16 = i by omega, decide_eq_true (show 16 + i < 32 by omega), decide_eq_false (show ¬ 16 + i < 16 by omega), decide_eq_true hi, decide_eq_true c, decide_eq_false (show ¬ 32 ≤ i by omega)]; rfl
  · rw [if_neg (show ¬ 16 + i < 32 by omega), if_neg c, decide_eq_true hi, decide_eq_false (show ¬ 32 ≤ i by omega)]; rfl
theorem nI_m1 {a : Nat} (h : a < 2 ^ 31) : ¬ nI a = (-1 : Int32) := by
  intro q
  have h2 : (nI a).toInt = (-1 : Int32).toInt := by rw [q]
  rw [nI_toInt h] at h2
  have h3 : (-1 : Int32).toInt = -1 := by decide
  omega
def zwv (t : Nat) (v : Int32) : Int32 := if t = 0 then v.toInt8.toInt32 else if t = 1 then v.toInt16.toInt32 else v
theorem a_write {t j : Nat} {v : Int32} {cs : Nat → Int32} (ht : t < 3) (hj : j < 40) : p_X1_write (nI j) v (nI t) cs = some (upd cs j (zwv t v)) := by
  unfold p_X1_write zwv
  rcases (show t = 0 ∨ t = 1 ∨ t = 2 by omega) with rfl | rfl | rfl
  · rw [if_pos (show nI 0 = (0 : Int32) from rfl), if_pos rfl, z_set_n hj (by decide), zbs]
  · rw [if_neg (show ¬ nI 1 = (0 : Int32) by decide), if_pos (show nI 1 = (1 : Int32) from rfl), if_neg (by decide), if_pos rfl, z_set_n hj (by decide), zbs]
  · rw [if_neg (show ¬ nI 2 = (0 : Int32) by decide), if_neg (show ¬ nI 2 = (1 : Int32) by decide), if_neg (by decide), if_neg (by decide), z_set_n hj (by decide), zbs]
/-- a place on a sheet of n cells, for both -/
theorem arg_idx (x : Int32) {n : Nat} (hn : n ≤ 40) : (∃ j, j < n ∧ x = nI j ∧ ¬ x < 0 ∧ x < nI n ∧ p_X6_in x.toInt64 (0 : Int64) ((nI n - (1 : Int32)).toInt64) = some 1) ∨ ((x < 0 ∨ ¬ x < nI n) ∧ p_X6_in x.toInt64 (0 : Int64) ((nI n - (1 : Int32)).toInt64) = some 0) := by
  have hdI : ((nI n - 1 : Int32).toInt64).toInt = (n : Int) - 1 := by rw [zx_l, zi1, pk_sub_toInt (by omega) (by omega)]; rfl
  have h0I : (0 : Int32).toInt = 0 := by decide
  by_cases h0 : x < 0
  · right
    have h0' := (zx_lt _ _).mp h0
    rw [h0I] at h0'
    exact ⟨Or.inl h0, in_no (Or.inl (by rw [zx_l, zL0]; exact h0'))⟩
  · obtain ⟨j, hj, rfl⟩ := nI_of h0
    have jI : (nI j).toInt64.toInt = (j : Int) := by rw [zx_l, nI_toInt hj]
    by_cases c : j < n
    · left
      exact ⟨j, c, rfl, h0, nI_lt c (by omega), in_yes (by rw [jI, zL0]; omega) (by rw [jI, hdI]; omega)⟩
    · right
      exact ⟨Or.inr (nI_nlt' c hj), in_no (Or.inr (by rw [jI, hdI]; omega))⟩
theorem a_fo1 {t n : Nat} {x : Int32} (ht : t < 3) (h : ¬ x < 0 ∧ x < nI n) : p_X1_faultOf (nI t) x (nI t) (nI n) = some 0 := by
  unfold p_X1_faultOf p_X1_isNothing
  rw [if_neg (nI_m1 (by omega)), zbs, if_pos rfl, if_pos rfl, if_neg h.1, if_pos h.2]
theorem a_fo2 {t n : Nat} {x : Int32} (ht : t < 3) (h : x < 0 ∨ ¬ x < nI n) : p_X1_faultOf (nI t) x (nI t) (nI n) = some 2 := by
  unfold p_X1_faultOf p_X1_isNothing
  rw [if_neg (nI_m1 (by omega)), zbs, if_pos rfl, if_pos rfl]
  by_cases c : x < 0
  · rw [if_pos c]
  · rw [if_neg c, if_neg (by rcases h with q | q; exact absurd q c; exact q)]
theorem a_fo3 {x y z : Int32} : p_X1_faultOf y x (-1) z = some 1 := by
  unfold p_X1_faultOf p_X1_isNothing
  rw [if_pos rfl, zbs, if_neg z1n0]
theorem a_fo4 {t u : Nat} {x z : Int32} (ht : t < 3) (h : ¬ nI t = nI u) : p_X1_faultOf (nI u) x (nI t) z = some 3 := by
  unfold p_X1_faultOf p_X1_isNothing
  rw [if_neg (nI_m1 (by omega)), zbs, if_pos rfl, if_neg h]
theorem zSh_upd {l s : Int32} {cs : Nat → Int32} {ml mn : Int32} {m : Nat → Int32} {a j : Nat} {w : Int32} (h : zSh l s cs ml mn (fun i => m (a + i))) : zSh l s (upd cs j w) ml mn (fun i => upd m (a + j) w (a + i)) := by
  refine ⟨h.1, fun i hi => ?_⟩
  try dsimp only
  by_cases e : i = j
  · rw [e, pk_us, pk_us]
  · rw [pk_un e, pk_un (by omega)]
    exact h.2 i hi
theorem b_lay {k j t n : Nat} {v : Int32} {ls ns m : Nat → Int32} (hk : k ≤ 3) (ht : t < 3) (hj : j < n) (hn : n ≤ 40) (h1 : p_X6_in (nI k).toInt64 (0 : Int64) (3 : Int64) = some 1) (e1 : ls k = nI t) (e2 : ns k = nI n) (h2 : p_X6_in (nI j).toInt64 (0 : Int64) ((nI n - (1 : Int32)).toInt64) = some 1) : p_X6_lay (nI k) (nI j) v ls ns m = some (1, upd m (40 * k + j) (zwv t v)) := by
  have gl : z_get ls 4 (nI k) = some (nI t) := by rw [z_get_n (by omega) (by decide), e1]
  have gn : z_get ns 4 (nI k) = some (nI n) := by rw [z_get_n (by omega) (by decide), e2]
  have gs : ∀ w, z_set m 160 (((40 : Int32) * nI k) + nI j) w = some (upd m (40 * k + j) w) := fun w => z_set_e (40 * k + j) (by rw [show (40 : Int32) = nI 40 from rfl, pk_mul, nI_add]) (by omega) (by decide)
  unfold p_X6_lay zwv
  rw [h1, zbs, if_neg z1n0, gl, zbs, if_neg (nI_m4 (by omega)), gn, zbs, h2, zbs, if_neg z1n0, zbs, zbs, gs, gs, gs, byte_sh, short_sh]
  rcases (show t = 0 ∨ t = 1 ∨ t = 2 by omega) with rfl | rfl | rfl
  · rw [if_pos (show nI 0 = (0 : Int32) from rfl), if_pos rfl]; rfl
  · rw [if_neg (show ¬ nI 1 = (0 : Int32) by decide), if_pos (show nI 1 = (1 : Int32) from rfl), if_neg (by decide), if_pos rfl]; rfl
  · rw [if_neg (show ¬ nI 2 = (0 : Int32) by decide), if_neg (show ¬ nI 2 = (1 : Int32) by decide), if_neg (by decide), if_neg (by decide)]; rfl
