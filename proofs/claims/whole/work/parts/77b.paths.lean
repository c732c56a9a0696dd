/-! ASK: the points of the pulls, year by year; how many are left -/
theorem zupd2 {f : Nat → Int32} {k : Nat} {x y : Int32} : upd (upd f k x) k y = upd f k y := by
  funext j
  by_cases e : j = k
  · rw [e, pk_us, pk_us]
  · rw [pk_un e, pk_un e, pk_un e]
/-- the trial's rows, whatever pull the draw i has there -/
def zAi (T : zTn) (i : Nat) (tr : Nat → Int32) : Prop := ∀ v, zA (zT1 T i v) (upd tr (4 * i + 1) (nI v))
section ZPA
variable {T : zTn} {tr f : Nat → Int32} {pt yr : Nat}
theorem a_gather (hp : pt < 100) (x1 x2 x3 x4 x5 : Int32) (t g : Nat → Int32) : ∃ g', p_X5_gatherPoints x1 x2 (nI pt) x3 x4 x5 tr t g = some (x1, x2, nI pt, x3, x4, x5, zct tr t, g') ∧ ∀ v, 1 ≤ v → v ≤ 20 → g' v = nI pt := by
  obtain ⟨r, h1, h2⟩ := z_lp_inv (body := p_X5_gatherPoints_b17 (nI pt)) (R := fun r => ∀ v, 1 ≤ v → v ≤ 20 → r v = nI pt) 20 (fun k x => x.1 = nI (1 + k) ∧ ∀ v, 1 ≤ v → v < 1 + k → x.2 v = nI pt) 1000 (nI 1, g)
    (by
      rintro k ⟨a, g2⟩ hk ⟨e1, e2⟩
      have e1' : a = nI (1 + k) := e1
      subst e1'
      have e2' : ∀ v, 1 ≤ v → v < 1 + k → g2 v = nI pt := e2
      refine ⟨(nI (1 + k + 1), upd g2 (1 + k) (nI pt)), ?_, rfl, ?_⟩
      · unfold p_X5_gatherPoints_b17
        try dsimp only
        rw [zgM_1, zbs, if_neg (show ¬ nI 20 < nI (1 + k) from nI_nlt (by omega) (by omega)), z_set_n (by omega) (by decide), zbs, nI_1]
      · intro v h1 h2
        try dsimp only
        by_cases q : v = 1 + k
        · rw [q, pk_us]
        · rw [pk_un q]; exact e2' v h1 (by omega))
    (by
      rintro ⟨a, g2⟩ ⟨e1, e2⟩
      have e1' : a = nI (1 + 20) := e1
      subst e1'
      refine ⟨g2, ?_, fun v h1 h2 => e2 v h1 (by omega)⟩
      unfold p_X5_gatherPoints_b17
      try dsimp only
      rw [zgM_1, zbs, if_pos (show nI 20 < nI (1 + 20) by decide)])
    ⟨rfl, fun v h1 h2 => absurd h2 (by omega)⟩ (by decide)
  refine ⟨r, ?_, h2⟩
  unfold p_X5_gatherPoints p_X4_copyFrom
  rw [zbs, zgL_1, zbs, h1, zbs]
  rfl
theorem a_move (hV : zV T) (hp : pt < 100) (hy : yr ≤ 999) {i : Nat} (hi : i < t_d T) (P : Nat → Bool) {n : Nat} (hn : n < 31) {t g : Nat → Int32} (hA : zAi T i t) (hg : ∀ v, 1 ≤ v → v ≤ 20 → P v = true → g v = nI (zps (zT1 T i v) pt yr n)) (x1 : Int32) : ∃ r, p_X5_movePoints (nI i) (zbt P 1 20) (nI (t_d T)) (nI (t_ft T)) x1 (nI (t_st T)) (nI (t_be T)) (nI (yr + n)) t g = some r ∧ r.2.1 = nI (yr + (n + 1)) ∧ zAi T i r.2.2.1 ∧ (∀ v, 1 ≤ v → v ≤ 20 → P v = true → r.2.2.2 v = nI (zps (zT1 T i v) pt yr (n + 1))) := by
  have hd := hV.1
  obtain ⟨r, h1, h2⟩ := z_lp_inv (body := p_X5_movePoints_b15 (zbt P 1 20) (nI i) (nI (t_d T)) (nI (t_ft T)) (nI (t_st T)) (nI (t_be T)) (nI (yr + n))) (R := fun r => zAi T i r.2.2.1 ∧ (∀ v, 1 ≤ v → v ≤ 20 → P v = true → r.2.2.2 v = nI (zps (zT1 T i v) pt yr (n + 1)))) 20 (fun k x => x.1 = nI (1 + k) ∧ zAi T i x.2.2.2.1 ∧ (∀ v, 1 ≤ v → v < 1 + k → P v = true → x.2.2.2.2 v = nI (zps (zT1 T i v) pt yr (n + 1))) ∧ (∀ v, 1 + k ≤ v → v ≤ 20 → P v = true → x.2.2.2.2 v = nI (zps (zT1 T i v) pt yr n))) 1000 (nI 1, x1, nI (yr + n), t, g)
    (by
      rintro k ⟨a, y1, y2, t2, g2⟩ hk ⟨e1, e2, e3, e4⟩
      have e1' : a = nI (1 + k) := e1
      subst e1'
      have e2' : zAi T i t2 := e2
      have e3' : ∀ v, 1 ≤ v → v < 1 + k → P v = true → g2 v = nI (zps (zT1 T i v) pt yr (n + 1)) := e3
      have e4' : ∀ v, 1 + k ≤ v → v ≤ 20 → P v = true → g2 v = nI (zps (zT1 T i v) pt yr n) := e4
      unfold p_X5_movePoints_b15
      try dsimp only
      rw [zgM_1, zbs, if_neg (show ¬ nI 20 < nI (1 + k) from nI_nlt (by omega) (by omega)), zbt_bit P (by omega) (by omega), nI_1]
      cases c : P (1 + k)
      · rw [zbI_f, if_neg (show ¬ (0 : Int32) = 1 by decide)]
        refine ⟨_, rfl, rfl, e2', ?_, ?_⟩
        · intro v h1 h2 h3
          by_cases q : v = 1 + k
          · rw [q, c] at h3; exact absurd h3 (by decide)
          · exact e3' v h1 (by omega) h3
        · intro v h1 h2 h3
          exact e4' v (by omega) h2 h3
      · rw [zbI_t, if_pos rfl]
        have hs : p_X4_setTrait (nI i) (1 : Int32) (nI (1 + k)) t2 = _ := a_set (w := 1) (by omega) (by decide)
        have hV1 := zV_t1 (i := i) (v := 1 + k) hV (by omega)
        have y := a_year hV1 (e2' (1 + k)) (zps_lt hV1 (yr := yr) hp n) (yr := yr + n) (by omega)
        have y' : p_X4_passYear (nI (t_d T)) (nI (t_ft T)) (nI (zps (zT1 T i (1 + k)) pt yr n)) (nI (t_st T)) (nI (t_be T)) (nI (yr + n)) (upd t2 (4 * i + 1) (nI (1 + k))) = some (zhc (zho (zT1 T i (1 + k)) (zps (zT1 T i (1 + k)) pt yr n) (yr + n)), nI (zps (zT1 T i (1 + k)) pt yr (n + 1)), nI (yr + n + 1)) := y
        rw [hs, zbs, z_get_n (by omega) (by decide), zbs, e4' (1 + k) (by omega) (by omega) c, y', zbs, z_set_n (by omega) (by decide), zbs]
        refine ⟨_, rfl, rfl, ?_, ?_, ?_⟩
        · intro v
          try dsimp only
          rw [zupd2]
          exact e2' v
        · intro v h1 h2 h3
          try dsimp only
          by_cases q : v = 1 + k
          · rw [q, pk_us]
          · rw [pk_un q]; exact e3' v h1 (by omega) h3
        · intro v h1 h2 h3
          try dsimp only
          rw [pk_un (show ¬ v = 1 + k by omega)]
          exact e4' v (by omega) h2 h3)
    (by
      rintro ⟨a, y1, y2, t2, g2⟩ ⟨e1, e2, e3, e4⟩
      have e1' : a = nI (1 + 20) := e1
      subst e1'
      refine ⟨(y1, y2, t2, g2), ?_, e2, fun v h1 h2 => e3 v h1 (by omega)⟩
      unfold p_X5_movePoints_b15
      try dsimp only
      rw [zgM_1, zbs, if_pos (show nI 20 < nI (1 + 20) by decide)])
    ⟨rfl, hA, fun v h1 h2 => absurd h2 (by omega), fun v h1 h2 h3 => hg v h1 h2 h3⟩ (by decide)
  unfold p_X5_movePoints
  rw [zgL_1, zbs, h1, zbs]
  exact ⟨_, rfl, by rw [nI_1]; rfl, h2⟩
end ZPA
/-- of the first k pulls that are possible: how many come to c -/
def zcc (P : Nat → Bool) (q : Nat → Nat) (c : Nat) : Nat → Nat
  | 0 => 0
  | k + 1 => if P (1 + k) = true ∧ q (1 + k) = c then zcc P q c k + 1 else zcc P q c k
def zml (P : Nat → Bool) (q : Nat → Nat) : Nat → Nat
  | 0 => 0
  | k + 1 => if P (1 + k) = true then (if zml P q k < zcc P q (q (1 + k)) (k + 1) then zcc P q (q (1 + k)) (k + 1) else zml P q k) else zml P q k
def zmw (P : Nat → Bool) (q : Nat → Nat) : Nat → Nat
  | 0 => 0
  | k + 1 => if (if P (1 + k) = true then zcc P q (q (1 + k)) 20 else 0) ≤ zmw P q k then zmw P q k else (if P (1 + k) = true then zcc P q (q (1 + k)) 20 else 0)
theorem zcc_le (P : Nat → Bool) (q : Nat → Nat) (c : Nat) : ∀ k, zcc P q c k ≤ k
  | 0 => Nat.le_refl 0
  | k + 1 => by
    have ih := zcc_le P q c k
    rw [zcc]
    split <;> omega
theorem zcc_mono (P : Nat → Bool) (q : Nat → Nat) (c k : Nat) : zcc P q c k ≤ zcc P q c (k + 1) := by
  rw [zcc]
  split <;> omega
theorem zml_le (P : Nat → Bool) (q : Nat → Nat) : ∀ k, zml P q k ≤ k
  | 0 => Nat.le_refl 0
  | k + 1 => by
    have ih := zml_le P q k
    have h2 := zcc_le P q (q (1 + k)) (k + 1)
    rw [zml]
    (repeat' split) <;> omega
theorem zmw_le (P : Nat → Bool) (q : Nat → Nat) : ∀ k, zmw P q k ≤ 20
  | 0 => Nat.zero_le _
  | k + 1 => by
    have ih := zmw_le P q k
    have h2 := zcc_le P q (q (1 + k)) 20
    rw [zmw]
    (repeat' split) <;> omega
theorem zcc_ex (P : Nat → Bool) (q : Nat → Nat) (c : Nat) : ∀ k, 0 < zcc P q c k → ∃ j, j < k ∧ P (1 + j) = true ∧ q (1 + j) = c
  | 0, h => absurd h (Nat.lt_irrefl 0)
  | k + 1, h => by
    by_cases e : P (1 + k) = true ∧ q (1 + k) = c
    · exact ⟨k, by omega, e.1, e.2⟩
    · rw [zcc, if_neg e] at h
      obtain ⟨j, h1, h2, h3⟩ := zcc_ex P q c k h
      exact ⟨j, by omega, h2, h3⟩
theorem zml_iff (P : Nat → Bool) (q : Nat → Nat) (B : Nat) : ∀ k, zml P q k ≤ B ↔ ∀ c, zcc P q c k ≤ B
  | 0 => ⟨fun _ _ => Nat.zero_le _, fun _ => Nat.zero_le _⟩
  | k + 1 => by
    have ih := zml_iff P q B k
    rw [zml]
    by_cases e : P (1 + k) = true
    · rw [if_pos e]
      constructor
      · intro h c
        have h1 : zml P q k ≤ B := by split at h <;> omega
        have h2 : zcc P q (q (1 + k)) (k + 1) ≤ B := by split at h <;> omega
        by_cases e2 : q (1 + k) = c
        · rw [← e2]; exact h2
        · rw [zcc, if_neg (show ¬ (P (1 + k) = true ∧ q (1 + k) = c) from fun z => e2 z.2)]
          exact ih.mp h1 c
      · intro h
        have h1 := ih.mpr (fun c => Nat.le_trans (zcc_mono P q c k) (h c))
        have h2 := h (q (1 + k))
        split <;> omega
    · rw [if_neg e, ih]
      constructor
      · intro h c
        rw [zcc, if_neg (show ¬ (P (1 + k) = true ∧ q (1 + k) = c) from fun z => e z.1)]
        exact h c
      · intro h c
        exact Nat.le_trans (zcc_mono P q c k) (h c)
theorem zmw_iff (P : Nat → Bool) (q : Nat → Nat) (B : Nat) : ∀ k, zmw P q k ≤ B ↔ ∀ j, j < k → P (1 + j) = true → zcc P q (q (1 + j)) 20 ≤ B
  | 0 => ⟨fun _ j hj => absurd hj (Nat.not_lt_zero j), fun _ => Nat.zero_le _⟩
  | k + 1 => by
    have ih := zmw_iff P q B k
    rw [zmw]
    constructor
    · intro h j hj hP
      have h1 : zmw P q k ≤ B := by
        generalize (if P (1 + k) = true then zcc P q (q (1 + k)) 20 else 0) = w at h
        split at h <;> omega
      by_cases e : j = k
      · subst e
        rw [if_pos hP] at h
        split at h <;> omega
      · exact ih.mp h1 j (by omega) hP
    · intro h
      have h1 := ih.mpr (fun j hj => h j (by omega))
      have h2 := h k (by omega)
      by_cases e : P (1 + k) = true
      · rw [if_pos e]
        have := h2 e
        split <;> omega
      · rw [if_neg e]
        split <;> omega
theorem zml_zmw (P : Nat → Bool) (q : Nat → Nat) : zml P q 20 = zmw P q 20 := by
  apply Nat.le_antisymm
  · rw [zml_iff]
    intro c
    by_cases h : 0 < zcc P q c 20
    · obtain ⟨j, h1, h2, h3⟩ := zcc_ex P q c 20 h
      have := (zmw_iff P q (zmw P q 20) 20).mp (Nat.le_refl _) j h1 h2
      rw [h3] at this
      exact this
    · omega
  · rw [zmw_iff]
    intro j hj hP
    exact (zml_iff P q (zml P q 20) 20).mp (Nat.le_refl _) _
theorem a_zero (t : Nat → Int32) : ∃ r, z_lp p_X5_mostLeft_b2 1000 ((0 : Int32), t) = some r ∧ ∀ c, c < 100 → r c = 0 := by
  refine z_lp_inv (body := p_X5_mostLeft_b2) (R := fun r => ∀ c, c < 100 → r c = 0) 100 (fun k x => x.1 = nI k ∧ ∀ c, c < k → x.2 c = 0) 1000 _ ?_ ?_ ⟨rfl, fun c hc => absurd hc (Nat.not_lt_zero c)⟩ (by decide)
  · rintro k ⟨a, t⟩ hk ⟨e1, e2⟩
    have e1' : a = nI k := e1
    subst e1'
    have e2' : ∀ c, c < k → t c = 0 := e2
    refine ⟨(nI (k + 1), upd t k 0), ?_, rfl, ?_⟩
    · unfold p_X5_mostLeft_b2
      try dsimp only
      rw [if_neg (show ¬ (100 : Int32) ≤ nI k from nI_ge (b := 100) hk (by decide)), z_set_n hk (by decide), zbs, nI_1]
    · intro c hc
      try dsimp only
      by_cases q : c = k
      · rw [q, pk_us]
      · rw [pk_un q]; exact e2' c (by omega)
  · rintro ⟨a, t⟩ ⟨e1, e2⟩
    have e1' : a = nI 100 := e1
    subst e1'
    refine ⟨t, ?_, e2⟩
    unfold p_X5_mostLeft_b2
    try dsimp only
    rw [if_pos (show (100 : Int32) ≤ nI 100 by decide)]
theorem a_mostLeft (P : Nat → Bool) (q : Nat → Nat) {g : Nat → Int32} (hg : ∀ v, 1 ≤ v → v ≤ 20 → P v = true → g v = nI (q v)) (hq : ∀ v, 1 ≤ v → v ≤ 20 → q v < 100) (t : Nat → Int32) : ∃ t', p_X5_mostLeft (zbt P 1 20) t g = some (nI (zml P q 20), t') := by
  obtain ⟨t0, h1, h2⟩ := a_zero t
  obtain ⟨r, h3, h4⟩ := z_lp_inv (body := p_X5_mostLeft_b29 (zbt P 1 20) g) (R := fun r => r.1 = nI (zml P q 20)) 20 (fun k x => x.1 = nI (zml P q k) ∧ x.2.1 = nI (1 + k) ∧ ∀ c, c < 100 → x.2.2 c = nI (zcc P q c k)) 1000 ((0 : Int32), nI 1, t0)
    (by
      rintro k ⟨a, b, t⟩ hk ⟨e1, e2, e3⟩
      have e1' : a = _ := e1
      have e2' : b = nI (1 + k) := e2
      subst e1' e2'
      have e3' : ∀ c, c < 100 → t c = nI (zcc P q c k) := e3
      have hm := zml_le P q k
      unfold p_X5_mostLeft_b29
      try dsimp only
      rw [zgM_1, zbs, if_neg (show ¬ nI 20 < nI (1 + k) from nI_nlt (by omega) (by omega)), zbt_bit P (by omega) (by omega), nI_1]
      cases c : P (1 + k)
      · rw [zbI_f, if_neg (show ¬ (0 : Int32) = 1 by decide)]
        refine ⟨_, rfl, ?_, rfl, ?_⟩
        · rw [zml, if_neg (by rw [c]; decide)]
        · intro x hx
          rw [zcc, if_neg (show ¬ (P (1 + k) = true ∧ q (1 + k) = x) from fun z => by rw [c] at z; exact absurd z.1 (by decide))]
          exact e3' x hx
      · have hqk := hq (1 + k) (by omega) (by omega)
        have hcc := zcc_le P q (q (1 + k)) (k + 1)
        have ecc : zcc P q (q (1 + k)) k + 1 = zcc P q (q (1 + k)) (k + 1) := by rw [zcc, if_pos (show P (1 + k) = true ∧ q (1 + k) = q (1 + k) from ⟨c, rfl⟩)]
        rw [zbI_t, if_pos rfl, z_get_n (show 1 + k < 21 by omega) (by decide), zbs, hg (1 + k) (by omega) (by omega) c, z_get_n hqk (by decide), zbs, e3' _ hqk, nI_1, ecc, z_set_n hqk (by decide), zbs, z_get_n hqk (by decide), zbs, pk_us]
        refine ⟨_, rfl, ?_, rfl, ?_⟩
        · try dsimp only
          rw [zml, if_pos c]
          by_cases z : zml P q k < zcc P q (q (1 + k)) (k + 1)
          · rw [if_pos (nI_lt z (by omega)), if_pos z]
          · rw [if_neg (nI_nlt' z (by omega)), if_neg z]
        · intro x hx
          try dsimp only
          by_cases z : x = q (1 + k)
          · rw [z, pk_us]
          · rw [pk_un z, zcc, if_neg (show ¬ (P (1 + k) = true ∧ q (1 + k) = x) from fun w => z w.2.symm)]
            exact e3' x hx)
    (by
      rintro ⟨a, b, t⟩ ⟨e1, e2, e3⟩
      have e2' : b = nI (1 + 20) := e2
      subst e2'
      refine ⟨(a, t), ?_, e1⟩
      unfold p_X5_mostLeft_b29
      try dsimp only
      rw [zgM_1, zbs, if_pos (show nI 20 < nI (1 + 20) by decide)])
    ⟨rfl, rfl, h2⟩ (by decide)
  unfold p_X5_mostLeft
  rw [h1, zbs, zgL_1, zbs, h3, zbs, h4]
  exact ⟨_, rfl⟩
theorem b_alike (P : Nat → Bool) (q : Nat → Nat) {n a : Nat} (hn : n < 31) (ha1 : 1 ≤ a) (ha2 : a ≤ 20) {pb : Nat → Int32} (hg : ∀ v, 1 ≤ v → v < 21 → pb (31 * v + n) = nI (q v)) (hq : ∀ v, 1 ≤ v → v ≤ 20 → q v < 100) (O1 : Int32 × (Nat → Int32) × (Nat → Int32)) (O2 : Int32 × Int32) (O3 : Int32 × Int32 × Int32) (h1 : O1.1 = zbt P 1 20) (h2 : O1.2.2 = pb) (h3 : O2.2 = nI a) (h4 : O3.2.2 = nI n) : z_lp (p_X6_ask_b65 O1 O2 O3) 1000 ((0 : Int32), (1 : Int32)) = some (nI (if P a = true then zcc P q (q a) 20 else 0)) := by
  have ix : ∀ v, (31 : Int32) * nI v + nI n = nI (31 * v + n) := fun v => by rw [show (31 : Int32) = nI 31 from rfl, pk_mul, nI_add]
  cases c : P a
  · refine z_lp_en (n := 999) ?_
    unfold p_X6_ask_b65
    try dsimp only
    rw [if_neg (show ¬ (20 : Int32) < 1 by decide), h1, h3, zbt_bit P ha1 ha2, c, zbI_f, if_neg (show ¬ (0 : Int32) = 1 by decide), if_neg (by decide)]
    try rfl
  · rw [if_pos rfl]
    have run := z_lp_run (body := p_X6_ask_b65 O1 O2 O3) (r := nI (zcc P q (q a) 20)) 20 (fun k => (nI (zcc P q (q a) k), nI (1 + k))) 1000 ?_ ?_ (by decide)
    · have e0 : ((0 : Int32), (1 : Int32)) = (fun k => (nI (zcc P q (q a) k), nI (1 + k))) 0 := rfl
      rw [e0, run]
    · intro k hk
      try dsimp only
      unfold p_X6_ask_b65
      try dsimp only
      rw [if_neg (show ¬ (20 : Int32) < nI (1 + k) from nI_nlt (a := 20) (by omega) (by decide)), h1, h2, h3, h4, zbt_bit P ha1 ha2, zbt_bit P (by omega) (by omega), c, zbI_t, if_pos rfl, ix, ix, z_get_n (by omega) (by decide), zbs, z_get_n (by omega) (by decide), zbs, hg a ha1 (by omega), hg (1 + k) (by omega) (by omega), nI_1, nI_1, zadd0, zcc]
      cases c2 : P (1 + k)
      · rw [zbI_f, if_neg (show ¬ (0 : Int32) = 1 by decide), if_neg (show ¬ (false = true ∧ q (1 + k) = q a) from fun z => absurd z.1 (by decide))]
        try rfl
      · rw [zbI_t, if_pos rfl]
        have b1 := hq a ha1 ha2
        have b2 := hq (1 + k) (by omega) (by omega)
        by_cases e : q (1 + k) = q a
        · rw [if_pos (show nI (q a) = nI (q (1 + k)) by rw [e]), if_pos (show true = true ∧ q (1 + k) = q a from ⟨rfl, e⟩)]
          try rfl
        · rw [if_neg (nI_ne' (fun z => e z.symm) (by omega) (by omega)), if_neg (show ¬ (true = true ∧ q (1 + k) = q a) from fun z => e z.2)]
          try rfl
    · try dsimp only
      unfold p_X6_ask_b65
      try dsimp only
      rw [if_pos (show (20 : Int32) < nI (1 + 20) by decide)]
theorem b_worst (P : Nat → Bool) (q : Nat → Nat) {n : Nat} (hn : n < 31) {pb : Nat → Int32} (hg : ∀ v, 1 ≤ v → v < 21 → pb (31 * v + n) = nI (q v)) (hq : ∀ v, 1 ≤ v → v ≤ 20 → q v < 100) (O1 : Int32 × (Nat → Int32) × (Nat → Int32)) (O3 : Int32 × Int32 × Int32) (h1 : O1.1 = zbt P 1 20) (h2 : O1.2.2 = pb) (h4 : O3.2.2 = nI n) : z_lp (p_X6_ask_b52 O1 O3) 1000 ((0 : Int32), (1 : Int32)) = some (nI (zmw P q 20)) := by
  have run := z_lp_run (body := p_X6_ask_b52 O1 O3) (r := nI (zmw P q 20)) 20 (fun k => (nI (zmw P q k), nI (1 + k))) 1000 ?_ ?_ (by decide)
  · have e0 : ((0 : Int32), (1 : Int32)) = (fun k => (nI (zmw P q k), nI (1 + k))) 0 := rfl
    rw [e0, run]
  · intro k hk
    have hm := zmw_le P q k
    have hcc : (if P (1 + k) = true then zcc P q (q (1 + k)) 20 else 0) ≤ 20 := by
      have := zcc_le P q (q (1 + k)) 20
      split <;> omega
    try dsimp only
    unfold p_X6_ask_b52
    try dsimp only
    rw [if_neg (show ¬ (20 : Int32) < nI (1 + k) from nI_nlt (a := 20) (by omega) (by decide)), b_alike P q hn (a := 1 + k) (by omega) (by omega) hg hq O1 (nI (zmw P q k), nI (1 + k)) O3 h1 h2 rfl h4, zbs, nI_1, zmw]
    generalize (if P (1 + k) = true then zcc P q (q (1 + k)) 20 else 0) = w at hcc
    by_cases z : w ≤ zmw P q k
    · rw [if_pos (nI_le z (by omega)), if_pos z]
      try rfl
    · rw [if_neg (nI_nle' z (by omega)), if_neg z]
      try rfl
  · try dsimp only
    unfold p_X6_ask_b52
    try dsimp only
    rw [if_pos (show (20 : Int32) < nI (1 + 20) by decide)]
def zlf (T : zTn) (pt yr i : Nat) (P : Nat → Bool) (n : Nat) : Nat := zml P (fun v => zps (zT1 T i v) pt yr n) 20
theorem zlf_le {T : zTn} {pt yr i : Nat} {P : Nat → Bool} (n : Nat) : zlf T pt yr i P n ≤ 24 := Nat.le_trans (zml_le _ _ _) (by decide)
section ZAS
variable {T : zTn} {pt yr i : Nat} {P : Nat → Bool}
theorem a_ask (hV : zV T) (hp : pt < 100) (hy : yr ≤ 999) (hi : i < t_d T) {m : Nat} (hm : m ≤ 24) {t g : Nat → Int32} (hA : zAi T i t) (hg : ∀ v, 1 ≤ v → v ≤ 20 → P v = true → g v = nI pt) (O1 : Int32 × Int32 × Int32 × Int32 × Int32 × Int32 × Int32 × (Nat → Int32)) (O2 : Int32 × Int32 × Int32 × Int32 × Int32 × Int32 × (Nat → Int32) × (Nat → Int32)) (h1 : O1.1 = zbt P 1 20) (h2 : O2.1 = nI (t_d T)) (h3 : O2.2.1 = nI (t_ft T)) (h4 : O2.2.2.2.1 = nI (t_st T)) (h5 : O2.2.2.2.2.1 = nI (t_be T)) (x1 : Int32) (ta : Nat → Int32) : ∃ r, z_lp (p_X5_ask_b44 O1 (nI i) O2) 1000 ((-4 : Int32), nI m, (0 : Int32), x1, nI yr, t, ta, g) = some r ∧ r.1 = (zbf (zlf T pt yr i P) nI (-4, m) 31).1 ∧ r.2.1 = nI (zbf (zlf T pt yr i P) nI (-4, m) 31).2 := by
  refine z_lp_inv (body := p_X5_ask_b44 O1 (nI i) O2) (R := fun r => r.1 = (zbf (zlf T pt yr i P) nI (-4, m) 31).1 ∧ r.2.1 = nI (zbf (zlf T pt yr i P) nI (-4, m) 31).2) 31 (fun k x => x.1 = (zbf (zlf T pt yr i P) nI (-4, m) k).1 ∧ x.2.1 = nI (zbf (zlf T pt yr i P) nI (-4, m) k).2 ∧ x.2.2.1 = nI k ∧ x.2.2.2.2.1 = nI (yr + k) ∧ zAi T i x.2.2.2.2.2.1 ∧ ∀ v, 1 ≤ v → v ≤ 20 → P v = true → x.2.2.2.2.2.2.2 v = nI (zps (zT1 T i v) pt yr k)) 1000 _ ?_ ?_ ⟨rfl, rfl, rfl, rfl, hA, hg⟩ (by decide)
  · rintro k ⟨a, b, c, y1, y2, t2, ta2, g2⟩ hk ⟨e1, e2, e3, e4, e5, e6⟩
    have e1' : a = _ := e1
    have e2' : b = _ := e2
    have e3' : c = nI k := e3
    have e4' : y2 = nI (yr + k) := e4
    subst e1' e2' e3' e4'
    have hb := zbf_le (h := zlf T pt yr i P) (lab := nI) (s := (-4, m)) (B := 24) hm (fun n => zlf_le n) k
    have hz := zlf_le (T := T) (pt := pt) (yr := yr) (i := i) (P := P) k
    obtain ⟨t', ht⟩ := a_mostLeft P (fun v => zps (zT1 T i v) pt yr k) (g := g2) (fun v a1 a2 a3 => e6 v a1 a2 a3) (fun v a1 a2 => zps_lt (zV_t1 hV a2) hp k) ta2
    have ht' : p_X5_mostLeft (zbt P 1 20) ta2 g2 = some (nI (zlf T pt yr i P k), t') := ht
    obtain ⟨r, m1, m2, m3, m4⟩ := a_move hV hp hy hi P hk (t := t2) (g := g2) e5 e6 y1
    unfold p_X5_ask_b44
    try dsimp only
    rw [if_neg (show ¬ (30 : Int32) < nI k from nI_nlt (a := 30) (by omega) (by decide)), h1, h2, h3, h4, h5, ht', zbs, m1, zbs, nI_1, zbf]
    try dsimp only
    by_cases z : (zbf (zlf T pt yr i P) nI (-4, m) k).2 ≤ zlf T pt yr i P k
    · rw [if_pos (nI_le z (by omega)), if_pos (nI_le z (by omega)), if_pos z]
      exact ⟨_, rfl, rfl, rfl, rfl, m2, m3, m4⟩
    · rw [if_neg (nI_nle' z (by omega)), if_neg (nI_nle' z (by omega)), if_neg z]
      exact ⟨_, rfl, rfl, rfl, rfl, m2, m3, m4⟩
  · rintro ⟨a, b, c, y1, y2, t2, ta2, g2⟩ ⟨e1, e2, e3, e4, e5, e6⟩
    have e3' : c = nI 31 := e3
    subst e3'
    refine ⟨(a, b, y1, y2, t2, ta2, g2), ?_, e1, e2⟩
    unfold p_X5_ask_b44
    try dsimp only
    rw [if_pos (show (30 : Int32) < nI 31 by decide)]
theorem b_ask (hV : zV T) (hp : pt < 100) {m : Nat} (hm : m ≤ 24) {pb : Nat → Int32} (hg : ∀ v, 1 ≤ v → v < 21 → ∀ j, j < 31 → pb (31 * v + j) = nI (zps (zT1 T i v) pt yr j)) (O1 : Int32 × (Nat → Int32) × (Nat → Int32)) (h1 : O1.1 = zbt P 1 20) (h2 : O1.2.2 = pb) : z_lp (p_X6_ask_b39 O1) 1000 (nI m, (-4 : Int32), (0 : Int32)) = some (nI (zbf (zlf T pt yr i P) nI (-4, m) 31).2, (zbf (zlf T pt yr i P) nI (-4, m) 31).1) := by
  have run := z_lp_run (body := p_X6_ask_b39 O1) (r := (nI (zbf (zlf T pt yr i P) nI (-4, m) 31).2, (zbf (zlf T pt yr i P) nI (-4, m) 31).1)) 31 (fun k => (nI (zbf (zlf T pt yr i P) nI (-4, m) k).2, (zbf (zlf T pt yr i P) nI (-4, m) k).1, nI k)) 1000 ?_ ?_ (by decide)
  · have e0 : (nI m, (-4 : Int32), (0 : Int32)) = (fun k => (nI (zbf (zlf T pt yr i P) nI (-4, m) k).2, (zbf (zlf T pt yr i P) nI (-4, m) k).1, nI k)) 0 := rfl
    rw [e0, run]
  · intro k hk
    have hb := zbf_le (h := zlf T pt yr i P) (lab := nI) (s := (-4, m)) (B := 24) hm (fun n => zlf_le n) k
    have hz := zlf_le (T := T) (pt := pt) (yr := yr) (i := i) (P := P) k
    have hw : zmw P (fun v => zps (zT1 T i v) pt yr k) 20 = zlf T pt yr i P k := (zml_zmw P _).symm
    have ht := b_worst P (fun v => zps (zT1 T i v) pt yr k) hk (pb := pb) (fun v a1 a2 => hg v a1 a2 k hk) (fun v a1 a2 => zps_lt (zV_t1 hV a2) hp k) O1 (nI (zbf (zlf T pt yr i P) nI (-4, m) k).2, (zbf (zlf T pt yr i P) nI (-4, m) k).1, nI k) h1 h2 rfl
    rw [hw] at ht
    try dsimp only
    unfold p_X6_ask_b39
    try dsimp only
    rw [if_neg (show ¬ (30 : Int32) < nI k from nI_nlt (a := 30) (by omega) (by decide)), ht, zbs, nI_1, zbf]
    by_cases z : (zbf (zlf T pt yr i P) nI (-4, m) k).2 ≤ zlf T pt yr i P k
    · rw [if_pos (nI_le z (by omega)), if_pos (nI_le z (by omega)), if_pos z]
    · rw [if_neg (nI_nle' z (by omega)), if_neg (nI_nle' z (by omega)), if_neg z]
  · try dsimp only
    unfold p_X6_ask_b39
    try dsimp only
    rw [if_pos (show (30 : Int32) < nI 31 by decide)]
end ZAS
