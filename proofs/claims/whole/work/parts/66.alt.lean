/-! ALTER, PUT: arguments and what they do -/
theorem fl_0 : p_X5_within (0 : Int32) (0 : Int32) (3 : Int32) = some 1 := by decide
theorem fl_1 : p_X5_within (1 : Int32) (0 : Int32) (3 : Int32) = some 1 := by decide
theorem fl_2 : p_X5_within (2 : Int32) (0 : Int32) (3 : Int32) = some 1 := by decide
theorem fl_3 : p_X5_within (3 : Int32) (0 : Int32) (3 : Int32) = some 1 := by decide
theorem z1n0 : ¬ (1 : Int32) = 0 := by decide
theorem zgL_2 : z_get zgL 4 (2 : Int32) = some (0 : Int32) := by decide
theorem zgM_2 : z_get zgM 4 (2 : Int32) = some (99 : Int32) := by decide
theorem zgL_3 : z_get zgL 4 (3 : Int32) = some (0 : Int32) := by decide
theorem zgM_3 : z_get zgM 4 (3 : Int32) = some (60 : Int32) := by decide
theorem fit0 (x : Int32) : (∃ v, 0 ≤ v ∧ v ≤ 3 ∧ x = nI v ∧ p_X5_fitsTrait (0 : Int32) x = some 1 ∧ p_X6_in x.toInt64 (0 : Int64) (3 : Int64) = some 1) ∨ (p_X5_fitsTrait (0 : Int32) x = some 0 ∧ p_X6_in x.toInt64 (0 : Int64) (3 : Int64) = some 0) := by
  have gL : z_get zgL 4 (0 : Int32) = some (nI 0) := zgL_0
  have gM : z_get zgM 4 (0 : Int32) = some (nI 3) := zgM_0
  rcases arg_in x (lo := 0) (hi := 3) (by decide) (by decide) with ⟨v, h0, h1, e, h2, h3⟩ | ⟨h2, h3, -⟩
  · left
    refine ⟨v, h0, h1, e, ?_, h3⟩
    unfold p_X5_fitsTrait; rw [fl_0, zbs, if_neg z1n0, gL, zbs, gM, zbs, h2, zbs, if_neg z1n0]
  · right
    refine ⟨?_, h3⟩
    unfold p_X5_fitsTrait; rw [fl_0, zbs, if_neg z1n0, gL, zbs, gM, zbs, h2, zbs, if_pos rfl]
theorem fit1 (x : Int32) : (∃ v, 1 ≤ v ∧ v ≤ 20 ∧ x = nI v ∧ p_X5_fitsTrait (1 : Int32) x = some 1 ∧ p_X6_in x.toInt64 (1 : Int64) (20 : Int64) = some 1) ∨ (p_X5_fitsTrait (1 : Int32) x = some 0 ∧ p_X6_in x.toInt64 (1 : Int64) (20 : Int64) = some 0) := by
  have gL : z_get zgL 4 (1 : Int32) = some (nI 1) := zgL_1
  have gM : z_get zgM 4 (1 : Int32) = some (nI 20) := zgM_1
  rcases arg_in x (lo := 1) (hi := 20) (by decide) (by decide) with ⟨v, h0, h1, e, h2, h3⟩ | ⟨h2, h3, -⟩
  · left
    refine ⟨v, h0, h1, e, ?_, h3⟩
    unfold p_X5_fitsTrait; rw [fl_1, zbs, if_neg z1n0, gL, zbs, gM, zbs, h2, zbs, if_neg z1n0]
  · right
    refine ⟨?_, h3⟩
    unfold p_X5_fitsTrait; rw [fl_1, zbs, if_neg z1n0, gL, zbs, gM, zbs, h2, zbs, if_pos rfl]
theorem fit2 (x : Int32) : (∃ v, 0 ≤ v ∧ v ≤ 99 ∧ x = nI v ∧ p_X5_fitsTrait (2 : Int32) x = some 1 ∧ p_X6_isCell x = some 1) ∨ (p_X5_fitsTrait (2 : Int32) x = some 0 ∧ p_X6_isCell x = some 0) := by
  have gL : z_get zgL 4 (2 : Int32) = some (nI 0) := zgL_2
  have gM : z_get zgM 4 (2 : Int32) = some (nI 99) := zgM_2
  rcases arg_in x (lo := 0) (hi := 99) (by decide) (by decide) with ⟨v, h0, h1, e, h2, h3⟩ | ⟨h2, h3, -⟩
  · left
    refine ⟨v, h0, h1, e, ?_, ?_⟩
    · unfold p_X5_fitsTrait; rw [fl_2, zbs, if_neg z1n0, gL, zbs, gM, zbs, h2, zbs, if_neg z1n0]
    · unfold p_X6_isCell; rw [show p_X6_in x.toInt64 (0 : Int64) (99 : Int64) = some 1 from h3, zbs, bit1]; rfl
  · right
    refine ⟨?_, ?_⟩
    · unfold p_X5_fitsTrait; rw [fl_2, zbs, if_neg z1n0, gL, zbs, gM, zbs, h2, zbs, if_pos rfl]
    · unfold p_X6_isCell; rw [show p_X6_in x.toInt64 (0 : Int64) (99 : Int64) = some 0 from h3, zbs, bit0]; rfl
theorem fit3 (x : Int32) : (∃ v, 0 ≤ v ∧ v ≤ 60 ∧ x = nI v ∧ p_X5_fitsTrait (3 : Int32) x = some 1 ∧ p_X6_in x.toInt64 (0 : Int64) (60 : Int64) = some 1) ∨ (p_X5_fitsTrait (3 : Int32) x = some 0 ∧ p_X6_in x.toInt64 (0 : Int64) (60 : Int64) = some 0) := by
  have gL : z_get zgL 4 (3 : Int32) = some (nI 0) := zgL_3
  have gM : z_get zgM 4 (3 : Int32) = some (nI 60) := zgM_3
  rcases arg_in x (lo := 0) (hi := 60) (by decide) (by decide) with ⟨v, h0, h1, e, h2, h3⟩ | ⟨h2, h3, -⟩
  · left
    refine ⟨v, h0, h1, e, ?_, h3⟩
    unfold p_X5_fitsTrait; rw [fl_3, zbs, if_neg z1n0, gL, zbs, gM, zbs, h2, zbs, if_neg z1n0]
  · right
    refine ⟨?_, h3⟩
    unfold p_X5_fitsTrait; rw [fl_3, zbs, if_neg z1n0, gL, zbs, gM, zbs, h2, zbs, if_pos rfl]
theorem u_t0 {f : Nat → Int32} {T : zTn} {pt yr i v : Nat} {tr : Nat → Int32} (hw : zW0 T pt yr) (hA : zA T tr) (hM : zM T f 0 (-4) pt yr) (hi : i < t_d T) (hv : v ≤ 3) : f (0 + i) = tr (4 * i + 0) ∧ zPg (upd f (0 + i) (nI v)) 0 (nI (t_d T)) (nI (t_ft T)) (nI pt) (nI (t_st T)) (nI (t_be T)) (nI yr) (upd tr (4 * i + 0) (nI v)) := by
  obtain ⟨hV, w2, w3, w4⟩ := hw
  have hd := hV.1
  refine ⟨?_, zT0 T i v, pt, yr, ⟨zV_t0 hV hv, w2, w3, ?_⟩, ⟨rfl, rfl, rfl, rfl, rfl, rfl, zA_t0 hA⟩, zM_t0 hM hd hi⟩
  · exact ((hM.2.2.2.2.2.2 i hi).1).trans ((hA i hi).1).symm
  · intro j hj
    have q := w4 j hj
    exact q
theorem u_t1 {f : Nat → Int32} {T : zTn} {pt yr i v : Nat} {tr : Nat → Int32} (hw : zW0 T pt yr) (hA : zA T tr) (hM : zM T f 0 (-4) pt yr) (hi : i < t_d T) (hv : 1 ≤ v ∧ v ≤ 20) : f (0 + 5 + i) = tr (4 * i + 1) ∧ zPg (upd f (0 + 5 + i) (nI v)) 0 (nI (t_d T)) (nI (t_ft T)) (nI pt) (nI (t_st T)) (nI (t_be T)) (nI yr) (upd tr (4 * i + 1) (nI v)) := by
  obtain ⟨hV, w2, w3, w4⟩ := hw
  have hd := hV.1
  refine ⟨?_, zT1 T i v, pt, yr, ⟨zV_t1 hV hv.2, w2, w3, ?_⟩, ⟨rfl, rfl, rfl, rfl, rfl, rfl, zA_t1 hA⟩, zM_t1 hM hd hi⟩
  · exact ((hM.2.2.2.2.2.2 i hi).2.1).trans ((hA i hi).2.1).symm
  · intro j hj
    have q := w4 j hj
    refine ⟨?_, q.2⟩
    show 1 ≤ zup (t_pl T) i v j
    by_cases e : j = i
    · rw [e, zup_s]; exact hv.1
    · rw [zup_n e]; exact q.1
theorem u_t2 {f : Nat → Int32} {T : zTn} {pt yr i v : Nat} {tr : Nat → Int32} (hw : zW0 T pt yr) (hA : zA T tr) (hM : zM T f 0 (-4) pt yr) (hi : i < t_d T) (hv : v < 100) : f (0 + 10 + i) = tr (4 * i + 2) ∧ zPg (upd f (0 + 10 + i) (nI v)) 0 (nI (t_d T)) (nI (t_ft T)) (nI pt) (nI (t_st T)) (nI (t_be T)) (nI yr) (upd tr (4 * i + 2) (nI v)) := by
  obtain ⟨hV, w2, w3, w4⟩ := hw
  have hd := hV.1
  refine ⟨?_, zT2 T i v, pt, yr, ⟨zV_t2 hV hv, w2, w3, ?_⟩, ⟨rfl, rfl, rfl, rfl, rfl, rfl, zA_t2 hA⟩, zM_t2 hM hd hi⟩
  · exact ((hM.2.2.2.2.2.2 i hi).2.2.1).trans ((hA i hi).2.2.1).symm
  · intro j hj
    have q := w4 j hj
    exact q
theorem u_t3 {f : Nat → Int32} {T : zTn} {pt yr i v : Nat} {tr : Nat → Int32} (hw : zW0 T pt yr) (hA : zA T tr) (hM : zM T f 0 (-4) pt yr) (hi : i < t_d T) (hv : v ≤ 60) : f (0 + 15 + i) = tr (4 * i + 3) ∧ zPg (upd f (0 + 15 + i) (nI v)) 0 (nI (t_d T)) (nI (t_ft T)) (nI pt) (nI (t_st T)) (nI (t_be T)) (nI yr) (upd tr (4 * i + 3) (nI v)) := by
  obtain ⟨hV, w2, w3, w4⟩ := hw
  have hd := hV.1
  refine ⟨?_, zT3 T i v, pt, yr, ⟨zV_t3 hV (by omega), w2, w3, ?_⟩, ⟨rfl, rfl, rfl, rfl, rfl, rfl, zA_t3 hA⟩, zM_t3 hM hd hi⟩
  · exact (((hM.2.2.2.2.2.2 i hi).2.2.2.2 (nI_m4 (by omega)))).trans ((hA i hi).2.2.2).symm
  · intro j hj
    have q := w4 j hj
    refine ⟨q.1, ?_⟩
    show zup (t_si T) i v j ≤ 60
    by_cases e : j = i
    · rw [e, zup_s]; exact hv
    · rw [zup_n e]; exact q.2
theorem a_full {d : Nat} (hd : d ≤ 5) : p_X4_isFull (nI d) = some (if d < 5 then 0 else 1) := by
  unfold p_X4_isFull
  by_cases c : d < 5
  · rw [if_pos c]; rcases (show d = 0 ∨ d = 1 ∨ d = 2 ∨ d = 3 ∨ d = 4 by omega) with rfl | rfl | rfl | rfl | rfl <;> decide
  · rw [if_neg c, show d = 5 by omega]; decide
theorem a_add {d : Nat} {tr : Nat → Int32} {k p c : Int32} (hd : d < 5) : p_X4_addDraw k p c (0 : Int32) (nI d) tr = some (nI (d + 1), zar tr d k p c) := by
  unfold p_X4_addDraw zar
  rw [a_full (by omega), zbs, if_pos hd, if_pos rfl]
  show (p_X4_setTrait (nI d) (nI 0) k tr).bind _ = _
  rw [a_set hd (by decide), zbs]
  show (p_X4_setTrait (nI d) (nI 1) p _).bind _ = _
  rw [a_set hd (by decide), zbs]
  show (p_X4_setTrait (nI d) (nI 2) c _).bind _ = _
  rw [a_set hd (by decide), zbs]
  show (p_X4_setTrait (nI d) (nI 3) (0 : Int32) _).bind _ = _
  rw [a_set hd (by decide), zbs, nI_1]
theorem b_putsOn {pg d : Nat} {f : Nat → Int32} {k p c : Int32} (hd : d < 5) (hg : pg ≤ 130) (hf : f (pg + 20) = nI d) : p_X6_putsOn (nI pg) k p c f = some (zmr f pg d k p c) := by
  unfold p_X6_putsOn zmr
  rw [z_get_e (pg + 20) (by rw [zi20, nI_add]) (by omega) (by decide), zbs, hf, z_set_e (pg + d) (by rw [nI_add]) (by omega) (by decide), zbs, z_set_e (pg + 5 + d) (by rw [zi5, nI_add, nI_add]) (by omega) (by decide), zbs, z_set_e (pg + 10 + d) (by rw [zi10, nI_add, nI_add]) (by omega) (by decide), zbs, z_set_e (pg + 15 + d) (by rw [zi15, nI_add, nI_add]) (by omega) (by decide), zbs, z_get_e (pg + 20) (by rw [zi20, nI_add]) (by omega) (by decide), zbs, z_set_e (pg + 20) (by rw [zi20, nI_add]) (by omega) (by decide), zbs, pk_un (show ¬ pg + 20 = pg + 15 + d by omega), pk_un (show ¬ pg + 20 = pg + 10 + d by omega), pk_un (show ¬ pg + 20 = pg + 5 + d by omega), pk_un (show ¬ pg + 20 = pg + d by omega), hf, nI_1]
theorem zsub0 (x : Int32) : x - 0 = x := Int32.sub_zero x
theorem zadd0 (x : Int32) : x + 0 = x := Int32.add_zero x
