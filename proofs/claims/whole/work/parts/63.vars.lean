/-! VARIANTS of a town: one trait of one draw, bears, stiff; a draw more -/
def zup (f : Nat → Nat) (i v : Nat) : Nat → Nat := fun j => if j = i then v else f j
theorem zup_s {f : Nat → Nat} {i v : Nat} : zup f i v i = v := if_pos rfl
theorem zup_n {f : Nat → Nat} {i v j : Nat} (h : ¬ j = i) : zup f i v j = f j := if_neg h
abbrev zT0 (T : zTn) (i v : Nat) : zTn := (t_d T, zup (t_kd T) i v, t_pl T, t_ca T, t_si T, t_ft T, t_st T, t_be T)
theorem zV_t0 {T : zTn} {i v : Nat} (hV : zV T) (hv : v ≤ 3) : zV (zT0 T i v) := by
  refine ⟨hV.1, hV.2.1, hV.2.2.1, hV.2.2.2.1, fun j hj => ?_⟩
  obtain ⟨b1, b2, b3, b4⟩ := hV.2.2.2.2 j hj
  refine ⟨?_, b2, b3, b4⟩
  show zup (t_kd T) i v j ≤ 3
  by_cases e : j = i
  · rw [e, zup_s]; exact hv
  · rw [zup_n e]; exact b1
theorem zA_t0 {T : zTn} {tr : Nat → Int32} {i v : Nat} (hA : zA T tr) : zA (zT0 T i v) (upd tr (4 * i + 0) (nI v)) := by
  intro j hj
  obtain ⟨h1, h2, h3, h4⟩ := hA j hj
  refine ⟨?_, (pk_un (by omega)).trans h2, (pk_un (by omega)).trans h3, (pk_un (by omega)).trans h4⟩
  show upd tr (4 * i + 0) (nI v) (4 * j) = nI (zup (t_kd T) i v j)
  by_cases e : j = i
  · rw [e, zup_s]; exact pk_us
  · rw [zup_n e, pk_un (by omega)]; exact h1
theorem zM_t0 {T : zTn} {f : Nat → Int32} {pg pt yr i v : Nat} (hM : zM T f pg (-4) pt yr) (hd : t_d T ≤ 5) (hi : i < t_d T) : zM (zT0 T i v) (upd f (pg + i) (nI v)) pg (-4) pt yr := by
  obtain ⟨h1, h2, h3, h4, h5, h6, h7⟩ := hM
  refine ⟨by rw [pk_un (show ¬ pg + 20 = pg + i by omega)]; exact h1, by rw [pk_un (show ¬ pg + 21 = pg + i by omega)]; exact h2, by rw [pk_un (show ¬ pg + 22 = pg + i by omega)]; exact h3, by rw [pk_un (show ¬ pg + 23 = pg + i by omega)]; exact h4, by rw [pk_un (show ¬ pg + 24 = pg + i by omega)]; exact h5, by rw [pk_un (show ¬ pg + 25 = pg + i by omega)]; exact h6, fun j hj => ?_⟩
  have hj' : j < t_d T := hj
  obtain ⟨q1, q2, q3, q4, q5⟩ := h7 j hj
  refine ⟨?_, by rw [pk_un (show ¬ pg + 5 + j = pg + i by omega)]; exact q2, by rw [pk_un (show ¬ pg + 10 + j = pg + i by omega)]; exact q3, q4, fun z => by rw [pk_un (show ¬ pg + 15 + j = pg + i by omega)]; exact q5 z⟩
  show upd f (pg + i) (nI v) (pg + j) = nI (zup (t_kd T) i v j)
  by_cases e : j = i
  · rw [e, zup_s, pk_us]
  · rw [zup_n e, pk_un (show ¬ pg + j = pg + i by omega)]; exact q1
abbrev zT1 (T : zTn) (i v : Nat) : zTn := (t_d T, t_kd T, zup (t_pl T) i v, t_ca T, t_si T, t_ft T, t_st T, t_be T)
theorem zV_t1 {T : zTn} {i v : Nat} (hV : zV T) (hv : v ≤ 20) : zV (zT1 T i v) := by
  refine ⟨hV.1, hV.2.1, hV.2.2.1, hV.2.2.2.1, fun j hj => ?_⟩
  obtain ⟨b1, b2, b3, b4⟩ := hV.2.2.2.2 j hj
  refine ⟨b1, ?_, b3, b4⟩
  show zup (t_pl T) i v j ≤ 20
  by_cases e : j = i
  · rw [e, zup_s]; exact hv
  · rw [zup_n e]; exact b2
theorem zA_t1 {T : zTn} {tr : Nat → Int32} {i v : Nat} (hA : zA T tr) : zA (zT1 T i v) (upd tr (4 * i + 1) (nI v)) := by
  intro j hj
  obtain ⟨h1, h2, h3, h4⟩ := hA j hj
  refine ⟨(pk_un (by omega)).trans h1, ?_, (pk_un (by omega)).trans h3, (pk_un (by omega)).trans h4⟩
  show upd tr (4 * i + 1) (nI v) (4 * j + 1) = nI (zup (t_pl T) i v j)
  by_cases e : j = i
  · rw [e, zup_s]; exact pk_us
  · rw [zup_n e, pk_un (by omega)]; exact h2
theorem zM_t1 {T : zTn} {f : Nat → Int32} {pg pt yr i v : Nat} (hM : zM T f pg (-4) pt yr) (hd : t_d T ≤ 5) (hi : i < t_d T) : zM (zT1 T i v) (upd f (pg + 5 + i) (nI v)) pg (-4) pt yr := by
  obtain ⟨h1, h2, h3, h4, h5, h6, h7⟩ := hM
  refine ⟨by rw [pk_un (show ¬ pg + 20 = pg + 5 + i by omega)]; exact h1, by rw [pk_un (show ¬ pg + 21 = pg + 5 + i by omega)]; exact h2, by rw [pk_un (show ¬ pg + 22 = pg + 5 + i by omega)]; exact h3, by rw [pk_un (show ¬ pg + 23 = pg + 5 + i by omega)]; exact h4, by rw [pk_un (show ¬ pg + 24 = pg + 5 + i by omega)]; exact h5, by rw [pk_un (show ¬ pg + 25 = pg + 5 + i by omega)]; exact h6, fun j hj => ?_⟩
  have hj' : j < t_d T := hj
  obtain ⟨q1, q2, q3, q4, q5⟩ := h7 j hj
  refine ⟨by rw [pk_un (show ¬ pg + j = pg + 5 + i by omega)]; exact q1, ?_, by rw [pk_un (show ¬ pg + 10 + j = pg + 5 + i by omega)]; exact q3, q4, fun z => by rw [pk_un (show ¬ pg + 15 + j = pg + 5 + i by omega)]; exact q5 z⟩
  show upd f (pg + 5 + i) (nI v) (pg + 5 + j) = nI (zup (t_pl T) i v j)
  by_cases e : j = i
  · rw [e, zup_s, pk_us]
  · rw [zup_n e, pk_un (show ¬ pg + 5 + j = pg + 5 + i by omega)]; exact q2
abbrev zT2 (T : zTn) (i v : Nat) : zTn := (t_d T, t_kd T, t_pl T, zup (t_ca T) i v, t_si T, t_ft T, t_st T, t_be T)
theorem zV_t2 {T : zTn} {i v : Nat} (hV : zV T) (hv : v < 100) : zV (zT2 T i v) := by
  refine ⟨hV.1, hV.2.1, hV.2.2.1, hV.2.2.2.1, fun j hj => ?_⟩
  obtain ⟨b1, b2, b3, b4⟩ := hV.2.2.2.2 j hj
  refine ⟨b1, b2, ?_, b4⟩
  show zup (t_ca T) i v j < 100
  by_cases e : j = i
  · rw [e, zup_s]; exact hv
  · rw [zup_n e]; exact b3
theorem zA_t2 {T : zTn} {tr : Nat → Int32} {i v : Nat} (hA : zA T tr) : zA (zT2 T i v) (upd tr (4 * i + 2) (nI v)) := by
  intro j hj
  obtain ⟨h1, h2, h3, h4⟩ := hA j hj
  refine ⟨(pk_un (by omega)).trans h1, (pk_un (by omega)).trans h2, ?_, (pk_un (by omega)).trans h4⟩
  show upd tr (4 * i + 2) (nI v) (4 * j + 2) = nI (zup (t_ca T) i v j)
  by_cases e : j = i
  · rw [e, zup_s]; exact pk_us
  · rw [zup_n e, pk_un (by omega)]; exact h3
theorem zM_t2 {T : zTn} {f : Nat → Int32} {pg pt yr i v : Nat} (hM : zM T f pg (-4) pt yr) (hd : t_d T ≤ 5) (hi : i < t_d T) : zM (zT2 T i v) (upd f (pg + 10 + i) (nI v)) pg (-4) pt yr := by
  obtain ⟨h1, h2, h3, h4, h5, h6, h7⟩ := hM
  refine ⟨by rw [pk_un (show ¬ pg + 20 = pg + 10 + i by omega)]; exact h1, by rw [pk_un (show ¬ pg + 21 = pg + 10 + i by omega)]; exact h2, by rw [pk_un (show ¬ pg + 22 = pg + 10 + i by omega)]; exact h3, by rw [pk_un (show ¬ pg + 23 = pg + 10 + i by omega)]; exact h4, by rw [pk_un (show ¬ pg + 24 = pg + 10 + i by omega)]; exact h5, by rw [pk_un (show ¬ pg + 25 = pg + 10 + i by omega)]; exact h6, fun j hj => ?_⟩
  have hj' : j < t_d T := hj
  obtain ⟨q1, q2, q3, q4, q5⟩ := h7 j hj
  refine ⟨by rw [pk_un (show ¬ pg + j = pg + 10 + i by omega)]; exact q1, by rw [pk_un (show ¬ pg + 5 + j = pg + 10 + i by omega)]; exact q2, ?_, q4, fun z => by rw [pk_un (show ¬ pg + 15 + j = pg + 10 + i by omega)]; exact q5 z⟩
  show upd f (pg + 10 + i) (nI v) (pg + 10 + j) = nI (zup (t_ca T) i v j)
  by_cases e : j = i
  · rw [e, zup_s, pk_us]
  · rw [zup_n e, pk_un (show ¬ pg + 10 + j = pg + 10 + i by omega)]; exact q3
abbrev zT3 (T : zTn) (i v : Nat) : zTn := (t_d T, t_kd T, t_pl T, t_ca T, zup (t_si T) i v, t_ft T, t_st T, t_be T)
theorem zV_t3 {T : zTn} {i v : Nat} (hV : zV T) (hv : v ≤ 1000000) : zV (zT3 T i v) := by
  refine ⟨hV.1, hV.2.1, hV.2.2.1, hV.2.2.2.1, fun j hj => ?_⟩
  obtain ⟨b1, b2, b3, b4⟩ := hV.2.2.2.2 j hj
  refine ⟨b1, b2, b3, ?_⟩
  show zup (t_si T) i v j ≤ 1000000
  by_cases e : j = i
  · rw [e, zup_s]; exact hv
  · rw [zup_n e]; exact b4
theorem zA_t3 {T : zTn} {tr : Nat → Int32} {i v : Nat} (hA : zA T tr) : zA (zT3 T i v) (upd tr (4 * i + 3) (nI v)) := by
  intro j hj
  obtain ⟨h1, h2, h3, h4⟩ := hA j hj
  refine ⟨(pk_un (by omega)).trans h1, (pk_un (by omega)).trans h2, (pk_un (by omega)).trans h3, ?_⟩
  show upd tr (4 * i + 3) (nI v) (4 * j + 3) = nI (zup (t_si T) i v j)
  by_cases e : j = i
  · rw [e, zup_s]; exact pk_us
  · rw [zup_n e, pk_un (by omega)]; exact h4
theorem zM_t3 {T : zTn} {f : Nat → Int32} {pg pt yr i v : Nat} (hM : zM T f pg (-4) pt yr) (hd : t_d T ≤ 5) (hi : i < t_d T) : zM (zT3 T i v) (upd f (pg + 15 + i) (nI v)) pg (-4) pt yr := by
  obtain ⟨h1, h2, h3, h4, h5, h6, h7⟩ := hM
  refine ⟨by rw [pk_un (show ¬ pg + 20 = pg + 15 + i by omega)]; exact h1, by rw [pk_un (show ¬ pg + 21 = pg + 15 + i by omega)]; exact h2, by rw [pk_un (show ¬ pg + 22 = pg + 15 + i by omega)]; exact h3, by rw [pk_un (show ¬ pg + 23 = pg + 15 + i by omega)]; exact h4, by rw [pk_un (show ¬ pg + 24 = pg + 15 + i by omega)]; exact h5, by rw [pk_un (show ¬ pg + 25 = pg + 15 + i by omega)]; exact h6, fun j hj => ?_⟩
  have hj' : j < t_d T := hj
  obtain ⟨q1, q2, q3, q4, q5⟩ := h7 j hj
  refine ⟨by rw [pk_un (show ¬ pg + j = pg + 15 + i by omega)]; exact q1, by rw [pk_un (show ¬ pg + 5 + j = pg + 15 + i by omega)]; exact q2, by rw [pk_un (show ¬ pg + 10 + j = pg + 15 + i by omega)]; exact q3, fun z => absurd z (nI_m4 (by omega)), fun z => ?_⟩
  show upd f (pg + 15 + i) (nI v) (pg + 15 + j) = nI (zup (t_si T) i v j)
  by_cases e : j = i
  · rw [e, zup_s, pk_us]
  · rw [zup_n e, pk_un (show ¬ pg + 15 + j = pg + 15 + i by omega)]; exact q5 z
abbrev zTbe (T : zTn) (v : Nat) : zTn := (t_d T, t_kd T, t_pl T, t_ca T, t_si T, t_ft T, t_st T, v)
theorem zV_be {T : zTn} {v : Nat} (hV : zV T) (hv : v ≤ 18) : zV (zTbe T v) := ⟨hV.1, hV.2.1, hV.2.2.1, hv, hV.2.2.2.2⟩
theorem zM_be {T : zTn} {f : Nat → Int32} {pg pt yr v : Nat} {sil : Int32} (hM : zM T f pg sil pt yr) (hd : t_d T ≤ 5) : zM (zTbe T v) (upd f (pg + 24) (nI v - 9)) pg sil pt yr := by
  obtain ⟨h1, h2, h3, h4, h5, h6, h7⟩ := hM
  refine ⟨by rw [pk_un (show ¬ pg + 20 = pg + 24 by omega)]; exact h1, by rw [pk_un (show ¬ pg + 21 = pg + 24 by omega)]; exact h2, by rw [pk_un (show ¬ pg + 22 = pg + 24 by omega)]; exact h3, by rw [pk_un (show ¬ pg + 23 = pg + 24 by omega)]; exact h4, by rw [pk_us]; exact zsub_add _ _, by rw [pk_un (show ¬ pg + 25 = pg + 24 by omega)]; exact h6, fun j hj => ?_⟩
  have hj' : j < t_d T := hj
  rw [pk_un (show ¬ pg + j = pg + 24 by omega), pk_un (show ¬ pg + 5 + j = pg + 24 by omega), pk_un (show ¬ pg + 10 + j = pg + 24 by omega), pk_un (show ¬ pg + 15 + j = pg + 24 by omega)]
  exact h7 j hj
abbrev zTst (T : zTn) (v : Nat) : zTn := (t_d T, t_kd T, t_pl T, t_ca T, t_si T, t_ft T, v, t_be T)
theorem zV_st {T : zTn} {v : Nat} (hV : zV T) (hv : v ≤ 20) : zV (zTst T v) := ⟨hV.1, hV.2.1, hv, hV.2.2.2.1, hV.2.2.2.2⟩
theorem zM_st {T : zTn} {f : Nat → Int32} {pg pt yr v : Nat} {sil : Int32} (hM : zM T f pg sil pt yr) (hd : t_d T ≤ 5) : zM (zTst T v) (upd f (pg + 23) (nI v - 2)) pg sil pt yr := by
  obtain ⟨h1, h2, h3, h4, h5, h6, h7⟩ := hM
  refine ⟨by rw [pk_un (show ¬ pg + 20 = pg + 23 by omega)]; exact h1, by rw [pk_un (show ¬ pg + 21 = pg + 23 by omega)]; exact h2, by rw [pk_un (show ¬ pg + 22 = pg + 23 by omega)]; exact h3, by rw [pk_us]; exact zsub_add _ _, by rw [pk_un (show ¬ pg + 24 = pg + 23 by omega)]; exact h5, by rw [pk_un (show ¬ pg + 25 = pg + 23 by omega)]; exact h6, fun j hj => ?_⟩
  have hj' : j < t_d T := hj
  rw [pk_un (show ¬ pg + j = pg + 23 by omega), pk_un (show ¬ pg + 5 + j = pg + 23 by omega), pk_un (show ¬ pg + 10 + j = pg + 23 by omega), pk_un (show ¬ pg + 15 + j = pg + 23 by omega)]
  exact h7 j hj
abbrev zTa (T : zTn) (k p c : Nat) : zTn := (t_d T + 1, zup (t_kd T) (t_d T) k, zup (t_pl T) (t_d T) p, zup (t_ca T) (t_d T) c, zup (t_si T) (t_d T) 0, t_ft T, t_st T, t_be T)
theorem zV_a {T : zTn} {k p c : Nat} (hV : zV T) (hd : t_d T < 5) (hk : k ≤ 3) (hp : p ≤ 20) (hc : c < 100) : zV (zTa T k p c) := by
  refine ⟨hd, hV.2.1, hV.2.2.1, hV.2.2.2.1, fun j hj => ?_⟩
  have hj' : j < t_d T + 1 := hj
  show zup (t_kd T) (t_d T) k j ≤ 3 ∧ zup (t_pl T) (t_d T) p j ≤ 20 ∧ zup (t_ca T) (t_d T) c j < 100 ∧ zup (t_si T) (t_d T) 0 j ≤ 1000000
  by_cases e : j = t_d T
  · rw [e, zup_s, zup_s, zup_s, zup_s]; exact ⟨hk, hp, hc, by omega⟩
  · rw [zup_n e, zup_n e, zup_n e, zup_n e]; exact hV.2.2.2.2 j (by omega)
/-- the class's rows with a draw more -/
def zar (tr : Nat → Int32) (d : Nat) (k p c : Int32) : Nat → Int32 := upd (upd (upd (upd tr (4 * d + 0) k) (4 * d + 1) p) (4 * d + 2) c) (4 * d + 3) (0 : Int32)
theorem zA_a {T : zTn} {tr : Nat → Int32} {k p c : Nat} (hA : zA T tr) : zA (zTa T k p c) (zar tr (t_d T) (nI k) (nI p) (nI c)) := by
  intro j hj
  have hj' : j < t_d T + 1 := hj
  show zar tr (t_d T) (nI k) (nI p) (nI c) (4 * j) = nI (zup (t_kd T) (t_d T) k j) ∧ zar tr (t_d T) (nI k) (nI p) (nI c) (4 * j + 1) = nI (zup (t_pl T) (t_d T) p j) ∧ zar tr (t_d T) (nI k) (nI p) (nI c) (4 * j + 2) = nI (zup (t_ca T) (t_d T) c j) ∧ zar tr (t_d T) (nI k) (nI p) (nI c) (4 * j + 3) = nI (zup (t_si T) (t_d T) 0 j)
  unfold zar
  by_cases e : j = t_d T
  · rw [e, zup_s, zup_s, zup_s, zup_s]
    refine ⟨?_, ?_, ?_, pk_us⟩
    · rw [pk_un (by omega), pk_un (by omega), pk_un (by omega)]; exact pk_us
    · rw [pk_un (by omega), pk_un (by omega), pk_us]
    · rw [pk_un (by omega), pk_us]
  · rw [zup_n e, zup_n e, zup_n e, zup_n e]
    obtain ⟨h1, h2, h3, h4⟩ := hA j (by omega)
    refine ⟨?_, ?_, ?_, ?_⟩
    · rw [pk_un (by omega), pk_un (by omega), pk_un (by omega), pk_un (by omega)]; exact h1
    · rw [pk_un (by omega), pk_un (by omega), pk_un (by omega), pk_un (by omega)]; exact h2
    · rw [pk_un (by omega), pk_un (by omega), pk_un (by omega), pk_un (by omega)]; exact h3
    · rw [pk_un (by omega), pk_un (by omega), pk_un (by omega), pk_un (by omega)]; exact h4
/-- the reference's page with a draw more -/
def zmr (f : Nat → Int32) (pg d : Nat) (k p c : Int32) : Nat → Int32 := upd (upd (upd (upd (upd f (pg + d) k) (pg + 5 + d) p) (pg + 10 + d) c) (pg + 15 + d) (0 : Int32)) (pg + 20) (nI (d + 1))
theorem zM_a {T : zTn} {f : Nat → Int32} {pg pt yr k p c : Nat} (hM : zM T f pg (-4) pt yr) (hd : t_d T < 5) : zM (zTa T k p c) (zmr f pg (t_d T) (nI k) (nI p) (nI c)) pg (-4) pt yr := by
  obtain ⟨h1, h2, h3, h4, h5, h6, h7⟩ := hM
  have o : ∀ j, 20 < j → zmr f pg (t_d T) (nI k) (nI p) (nI c) (pg + j) = f (pg + j) := by
    intro j hj
    unfold zmr
    rw [pk_un (by omega), pk_un (by omega), pk_un (by omega), pk_un (by omega), pk_un (by omega)]
  refine ⟨pk_us, by rw [o 21 (by omega)]; exact h2, by rw [o 22 (by omega)]; exact h3, by rw [o 23 (by omega)]; exact h4, by rw [o 24 (by omega)]; exact h5, by rw [o 25 (by omega)]; exact h6, fun j hj => ?_⟩
  have hj' : j < t_d T + 1 := hj
  show zmr f pg (t_d T) (nI k) (nI p) (nI c) (pg + j) = nI (zup (t_kd T) (t_d T) k j) ∧ zmr f pg (t_d T) (nI k) (nI p) (nI c) (pg + 5 + j) = nI (zup (t_pl T) (t_d T) p j) ∧ zmr f pg (t_d T) (nI k) (nI p) (nI c) (pg + 10 + j) = nI (zup (t_ca T) (t_d T) c j) ∧ (nI j = (-4 : Int32) → zup (t_si T) (t_d T) 0 j = 1000000) ∧ (¬ nI j = (-4 : Int32) → zmr f pg (t_d T) (nI k) (nI p) (nI c) (pg + 15 + j) = nI (zup (t_si T) (t_d T) 0 j))
  unfold zmr
  by_cases e : j = t_d T
  · rw [e, zup_s, zup_s, zup_s, zup_s]
    refine ⟨?_, ?_, ?_, fun z => absurd z (nI_m4 (by omega)), fun _ => ?_⟩
    · rw [pk_un (by omega), pk_un (by omega), pk_un (by omega), pk_un (by omega), pk_us]
    · rw [pk_un (by omega), pk_un (by omega), pk_un (by omega), pk_us]
    · rw [pk_un (by omega), pk_un (by omega), pk_us]
    · rw [pk_un (by omega), pk_us]; rfl
  · rw [zup_n e, zup_n e, zup_n e, zup_n e]
    obtain ⟨q1, q2, q3, q4, q5⟩ := h7 j (by omega)
    refine ⟨?_, ?_, ?_, q4, fun z => ?_⟩
    · rw [pk_un (by omega), pk_un (by omega), pk_un (by omega), pk_un (by omega), pk_un (by omega)]; exact q1
    · rw [pk_un (by omega), pk_un (by omega), pk_un (by omega), pk_un (by omega), pk_un (by omega)]; exact q2
    · rw [pk_un (by omega), pk_un (by omega), pk_un (by omega), pk_un (by omega), pk_un (by omega)]; exact q3
    · rw [pk_un (by omega), pk_un (by omega), pk_un (by omega), pk_un (by omega), pk_un (by omega)]; exact q5 z
