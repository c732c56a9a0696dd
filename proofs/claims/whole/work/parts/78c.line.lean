/-! TEXT: numbers, ends, lines, on both sides -/
def zJs (n p0 : Nat) (by_ : Nat → Int32) (pl tok tp num fl fp br ba sp he tk va : Int32) : Prop := ∃ o5, p_X3_readToken (nI n) pl tok tp num fl fp by_ = some o5 ∧ zTs n p0 o5.1 o5.2.1 o5.2.2.1 o5.2.2.2.1 o5.2.2.2.2.1 o5.2.2.2.2.2 br ba sp he tk va
theorem rt_fl {len pl tok tp num fl fp : Int32} {by_ : Nat → Int32} {o : Int32 × Int32 × Int32 × Int32 × Int32 × Int32} (h : p_X3_readToken len pl tok tp num fl fp by_ = some o) (h0 : o.2.2.2.2.1 = 0) : fl = 0 := by
  by_cases q : fl = 0
  · exact q
  · rw [t_rt0 q] at h
    have e := Option.some.inj h
    rw [← e] at h0
    exact h0
theorem fl_n {u tp fl fp : Int32} (h : ¬ fl = 0) : p_X3_fail u tp fl fp = some (fl, fp) := by unfold p_X3_fail; rw [if_neg h]
theorem fl_0' {u tp fp : Int32} : p_X3_fail u tp 0 fp = some (u, tp) := by unfold p_X3_fail; rw [if_pos rfl]
theorem fs_0 {u ba he : Int32} : p_X6_fails u 0 ba he = some (u, he) := by unfold p_X6_fails; rw [if_pos rfl]
theorem wi_b (x a b : Int32) : p_X5_within x a b = some 0 ∨ p_X5_within x a b = some 1 := by
  unfold p_X5_within
  by_cases h : x < a
  · rw [if_pos h]; exact Or.inl rfl
  · rw [if_neg h]
    by_cases h2 : b < x
    · rw [if_pos h2]; exact Or.inl rfl
    · rw [if_neg h2]; exact Or.inr rfl
theorem en_b1 {lo hi len pl tok tp num fl fp a b cc d e g : Int32} {by_ : Nat → Int32} (h : p_X3_readToken len pl tok tp num fl fp by_ = some (a, b, cc, d, e, g)) (he : ¬ e = 0) : p_X3_expectNumber lo hi len pl tok tp num fl fp by_ = some (d, a, b, cc, d, e, g) := by
  unfold p_X3_expectNumber
  rw [h, zbs]
  try dsimp only
  by_cases q : b = 2
  · rw [if_pos q]
    rcases wi_b d lo hi with w | w
    · rw [w, zbs, if_pos rfl, fl_n he, zbs]
    · rw [w, zbs, if_neg z1n0]
  · rw [if_neg q, fl_n he, zbs]
theorem ec_b1 {len pl tok tp num fl fp a b cc d e g : Int32} {by_ : Nat → Int32} (h : p_X3_readToken len pl tok tp num fl fp by_ = some (a, b, cc, d, e, g)) (he : ¬ e = 0) : p_X3_expectClose len pl tok tp num fl fp by_ = some (a, b, cc, d, e, g) := by
  unfold p_X3_expectClose
  rw [h, zbs]
  try dsimp only
  by_cases q : b = 3
  · rw [if_pos q]
  · rw [if_neg q, fl_n he, zbs]
section ZLN
variable {n : Nat} {c : Nat → Nat} {by_ tp_ : Nat → Int32}
set_option maxHeartbeats 1000000 in
theorem t_num (hB : zBy n c by_ tp_) {p0 : Nat} {pl tok tp num fl fp br ba sp he tk va : Int32} (hJ : zJs n p0 by_ pl tok tp num fl fp br ba sp he tk va) (lo hi : Nat) (h1 : lo ≤ hi) (h2 : hi ≤ 99) : ∃ (N5 pl' tok' tp' num' fl' fp' V6 : Int32) (o6 : Int32 × Int32 × Int32 × Int32 × Int32 × Int32), p_X3_expectNumber (nI lo) (nI hi) (nI n) pl tok tp num fl fp by_ = some (N5, pl', tok', tp', num', fl', fp') ∧ p_X6_number (nI lo) (nI hi) (nI n) br ba sp he tk va tp_ = some (V6, o6) ∧ zJs n p0 by_ pl' tok' tp' num' fl' fp' o6.1 o6.2.1 o6.2.2.1 o6.2.2.2.1 o6.2.2.2.2.1 o6.2.2.2.2.2 ∧ (fl' = 0 → fl = 0 ∧ ∃ v, lo ≤ v ∧ v ≤ hi ∧ N5 = nI v ∧ V6 = nI v) := by
  obtain ⟨⟨a, b, cc, d, e, g⟩, h5, hT⟩ := hJ
  have hT' : zTs n p0 a b cc d e g br ba sp he tk va := hT
  rcases hT' with ⟨p, h, k, v, g1, g2, g3, g4, g5, g6, rfl, rfl, rfl, g10, rfl, rfl, rfl, rfl, rfl, g16⟩ | hb
  · have fl0 : fl = 0 := rt_fl h5 rfl
    by_cases hk : k = 2
    · subst hk
      have d1 := g10 rfl
      have v1 := g16 rfl
      subst d1 v1
      have ll : (nI lo).toInt64 = lN lo := nI_l (by omega)
      have lh : (nI hi).toInt64 = lN hi := nI_l (by omega)
      rcases arg_in (nI v) (lo := lo) (hi := hi) (by omega) h1 with ⟨j, j1, j2, ej, w5, w6⟩ | ⟨w5, w6, -⟩
      · rw [nI_eq (by omega) (by omega)] at ej
        obtain ⟨r5, r6, s5, s6, sT⟩ := t_step hB (p0 := p0) (pl := nI p) (fl := 0) (fp := g) (br := 0) (ba := ba) (sp := nI p) (Or.inl ⟨p, by omega, g3, rfl, rfl, rfl, rfl⟩) (nI 2) (nI h) (nI v) (nI h) (nI 2) (nI v)
        refine ⟨nI v, nI p, nI 2, nI h, nI v, 0, g, nI v, r6, ?_, ?_, ⟨r5, s5, sT⟩, fun _ => ⟨fl0, v, by omega, by omega, rfl, rfl⟩⟩
        · unfold p_X3_expectNumber
          rw [h5, zbs]
          try dsimp only
          rw [if_pos (show nI 2 = (2 : Int32) from rfl), w5, zbs, if_neg z1n0]
        · unfold p_X6_number
          rw [if_pos rfl, if_pos (show nI 2 = (2 : Int32) from rfl), zbs]
          try dsimp only
          rw [if_pos rfl, ll, lh, w6, zbs, if_neg z1n0, zbs]
          try dsimp only
          rw [s6, zbs, if_pos rfl]
          try rfl
      · refine ⟨nI v, nI p, nI 2, nI h, nI v, 3, nI h, nI lo, ((3 : Int32), nI h, nI p, nI h, nI 2, nI v), ?_, ?_, ⟨_, t_rt0 (by decide), Or.inr ⟨3, h, by decide, by decide, rfl, rfl, rfl, rfl⟩⟩, fun z => absurd z (by decide)⟩
        · unfold p_X3_expectNumber
          rw [h5, zbs]
          try dsimp only
          rw [if_pos (show nI 2 = (2 : Int32) from rfl), w5, zbs, if_pos rfl, fl_0', zbs]
        · unfold p_X6_number
          rw [if_pos rfl, if_pos (show nI 2 = (2 : Int32) from rfl), zbs]
          try dsimp only
          rw [if_pos rfl, ll, lh, w6, zbs, if_pos rfl, fs_0, zbs, zbs]
          try dsimp only
          rw [t_st0 (by decide), zbs, if_neg (by decide)]
    · have n2 : ¬ nI k = (2 : Int32) := nI_ne' (b := 2) hk (by omega) (by decide)
      refine ⟨d, nI p, nI k, nI h, d, 2, nI h, nI lo, ((2 : Int32), nI h, nI p, nI h, nI k, va), ?_, ?_, ⟨_, t_rt0 (by decide), Or.inr ⟨2, h, by decide, by decide, rfl, rfl, rfl, rfl⟩⟩, fun z => absurd z (by decide)⟩
      · unfold p_X3_expectNumber
        rw [h5, zbs]
        try dsimp only
        rw [if_neg n2, fl_0', zbs]
      · unfold p_X6_number
        rw [if_pos rfl, if_neg n2, fs_0, zbs, zbs]
        try dsimp only
        rw [if_neg (show ¬ (2 : Int32) = 0 by decide), zbs]
        try dsimp only
        rw [t_st0 (by decide), zbs, if_neg (by decide)]
  · obtain ⟨b1, b2, b3⟩ := zBd_n hb
    refine ⟨d, a, b, cc, d, e, g, nI lo, (br, ba, sp, he, tk, va), en_b1 h5 b1, ?_, ⟨_, t_rt0 b1, Or.inr hb⟩, fun z => absurd z b1⟩
    unfold p_X6_number
    rw [if_neg b2, zbs]
    try dsimp only
    rw [if_neg b2, zbs]
    try dsimp only
    rw [t_st0 b3, zbs, if_neg b2]
theorem t_close (hB : zBy n c by_ tp_) {p0 : Nat} {pl tok tp num fl fp br ba sp he tk va : Int32} (hJ : zJs n p0 by_ pl tok tp num fl fp br ba sp he tk va) : ∃ (pl' tok' tp' num' fl' fp' f1 f2 : Int32) (o6 : Int32 × Int32 × Int32 × Int32 × Int32 × Int32), p_X3_expectClose (nI n) pl tok tp num fl fp by_ = some (pl', tok', tp', num', fl', fp') ∧ (if br = 0 then if tk = (3 : Int32) then some (br, ba) else (p_X6_fails (2 : Int32) br ba he).bind (fun o21 => some (o21.1, o21.2)) else some (br, ba)) = some (f1, f2) ∧ p_X6_step (nI n) f1 f2 sp he tk va tp_ = some o6 ∧ zJs n p0 by_ pl' tok' tp' num' fl' fp' o6.1 o6.2.1 o6.2.2.1 o6.2.2.2.1 o6.2.2.2.2.1 o6.2.2.2.2.2 ∧ (fl' = 0 → fl = 0) := by
  obtain ⟨⟨a, b, cc, d, e, g⟩, h5, hT⟩ := hJ
  have hT' : zTs n p0 a b cc d e g br ba sp he tk va := hT
  rcases hT' with ⟨p, h, k, v, g1, g2, g3, g4, g5, g6, rfl, rfl, rfl, g10, rfl, rfl, rfl, rfl, rfl, g16⟩ | hb
  · have fl0 : fl = 0 := rt_fl h5 rfl
    by_cases hk : k = 3
    · subst hk
      obtain ⟨r5, r6, s5, s6, sT⟩ := t_step hB (p0 := p0) (pl := nI p) (fl := 0) (fp := g) (br := 0) (ba := ba) (sp := nI p) (Or.inl ⟨p, by omega, g3, rfl, rfl, rfl, rfl⟩) (nI 3) (nI h) d (nI h) (nI 3) va
      refine ⟨nI p, nI 3, nI h, d, 0, g, 0, ba, r6, ?_, ?_, s6, ⟨r5, s5, sT⟩, fun _ => fl0⟩
      · unfold p_X3_expectClose
        rw [h5, zbs]
        try dsimp only
        rw [if_pos (show nI 3 = (3 : Int32) from rfl)]
      · rw [if_pos rfl, if_pos (show nI 3 = (3 : Int32) from rfl)]
    · have n3 : ¬ nI k = (3 : Int32) := nI_ne' (b := 3) hk (by omega) (by decide)
      refine ⟨nI p, nI k, nI h, d, 2, nI h, 2, nI h, ((2 : Int32), nI h, nI p, nI h, nI k, va), ?_, ?_, t_st0 (by decide), ⟨_, t_rt0 (by decide), Or.inr ⟨2, h, by decide, by decide, rfl, rfl, rfl, rfl⟩⟩, fun z => absurd z (by decide)⟩
      · unfold p_X3_expectClose
        rw [h5, zbs]
        try dsimp only
        rw [if_neg n3, fl_0', zbs]
      · rw [if_pos rfl, if_neg n3, fs_0, zbs]
  · obtain ⟨b1, b2, b3⟩ := zBd_n hb
    exact ⟨a, b, cc, d, e, g, br, ba, (br, ba, sp, he, tk, va), ec_b1 h5 b1, if_neg b2, t_st0 b3, ⟨_, t_rt0 b1, Or.inr hb⟩, fun z => absurd z b1⟩
theorem zuu (f : Nat → Int32) (i : Nat) (x y : Int32) : upd (upd f i x) i y = upd f i y := by
  funext j
  unfold upd
  split <;> rfl
/-- a draw more, told in the text -/
theorem u_add {pg tr : Nat → Int32} {ft po st be ye : Int32} {d w p v s : Nat} (h : zPg pg 0 (nI d) ft po st be ye tr) (hd : d < 5) (hw : w ≤ 3) (hp : 1 ≤ p ∧ p ≤ 20) (hv : v < 100) (hs : s ≤ 60) : zPg (upd (upd (upd (upd (upd pg d (nI w)) (5 + d) (nI p)) (10 + d) (nI v)) (15 + d) (nI s)) 20 (nI d + 1)) 0 (nI d + 1) ft po st be ye (upd (upd (upd (upd tr (4 * d + 0) (nI w)) (4 * d + 1) (nI p)) (4 * d + 2) (nI v)) (4 * d + 3) (nI s)) := by
  obtain ⟨T, pt, yr, ⟨hV, hp1, hy, hw4⟩, ⟨e1, e2, e3, e4, e5, e6, e7⟩, hM⟩ := h
  have ed : d = t_d T := (nI_eq (by omega) (by have := hV.1; omega)).mp e1
  subst ed
  refine ⟨zT3 (zTa T w p v) (t_d T) s, pt, yr, ⟨zV_t3 (zV_a hV hd hw hp.2 hv) (by omega), hp1, hy, fun i hi => ?_⟩, ⟨nI_1 _, e2, e3, e4, e5, e6, ?_⟩, ?_⟩
  · have hi' : i < t_d T + 1 := hi
    show 1 ≤ zup (t_pl T) (t_d T) p i ∧ zup (zup (t_si T) (t_d T) 0) (t_d T) s i ≤ 60
    by_cases q : i = t_d T
    · rw [q, zup_s, zup_s]; exact ⟨hp.1, hs⟩
    · rw [zup_n q, zup_n q, zup_n q]; exact hw4 i (by omega)
  · have t := zA_t3 (i := t_d T) (v := s) (zA_a (k := w) (p := p) (c := v) e7)
    unfold zar at t
    rw [zuu] at t
    exact t
  · have t := zM_t3 (i := t_d T) (v := s) (zM_a (k := w) (p := p) (c := v) hM hd) (show t_d T + 1 ≤ 5 by omega) (show t_d T < t_d T + 1 by omega)
    refine zM_congr (show t_d T + 1 ≤ 5 by omega) t (fun j hj => ?_)
    rw [nI_1]
    unfold zmr upd
    (repeat' split) <;> first | rfl | omega
theorem u_ft {f : Nat → Int32} {dr ft po st be ye : Int32} {tr : Nat → Int32} (h : zPg f 0 dr ft po st be ye tr) {j : Nat} (hj : j < 100) : zPg (upd (upd f 21 (nI j - 44)) 22 (nI j - 44)) 0 dr (nI j) (nI j) st be ye tr := by
  obtain ⟨T, pt, yr, ⟨⟨v1, v2, v3, v4, v5⟩, w2, w3, w4⟩, ⟨e1, e2, e3, e4, e5, e6, e7⟩, ⟨m1, m2, m3, m4, m5, m6, m7⟩⟩ := h
  refine ⟨(t_d T, t_kd T, t_pl T, t_ca T, t_si T, j, t_st T, t_be T), j, yr, ⟨⟨v1, hj, v3, v4, v5⟩, hj, w3, w4⟩, ⟨e1, rfl, rfl, e4, e5, e6, e7⟩, ⟨m1, zsub_add _ _, zsub_add _ _, m4, m5, m6, fun i hi => ?_⟩⟩
  have hi' : i < t_d T := hi
  rw [pk_un (show ¬ 0 + i = 22 by omega), pk_un (show ¬ 0 + 5 + i = 22 by omega), pk_un (show ¬ 0 + 10 + i = 22 by omega), pk_un (show ¬ 0 + 15 + i = 22 by omega), pk_un (show ¬ 0 + i = 21 by omega), pk_un (show ¬ 0 + 5 + i = 21 by omega), pk_un (show ¬ 0 + 10 + i = 21 by omega), pk_un (show ¬ 0 + 15 + i = 21 by omega)]
  exact m7 i hi
theorem a_addT {d : Nat} {tr : Nat → Int32} {k p v s : Int32} (hd : d < 5) : p_X4_addDraw k p v s (nI d) tr = some (nI d + 1, upd (upd (upd (upd tr (4 * d + 0) k) (4 * d + 1) p) (4 * d + 2) v) (4 * d + 3) s) := by
  unfold p_X4_addDraw p_X4_isFull
  rw [if_pos (show nI d < (5 : Int32) from nI_lt (b := 5) hd (by decide)), zbs, if_pos rfl]
  show (p_X4_setTrait (nI d) (nI 0) k tr).bind _ = _
  rw [a_set hd (by decide), zbs]
  show (p_X4_setTrait (nI d) (nI 1) p _).bind _ = _
  rw [a_set hd (by decide), zbs]
  show (p_X4_setTrait (nI d) (nI 2) v _).bind _ = _
  rw [a_set hd (by decide), zbs]
  show (p_X4_setTrait (nI d) (nI 3) s _).bind _ = _
  rw [a_set hd (by decide), zbs]
theorem w_in : ∀ w, w < 7 → p_X6_in (nI w).toInt64 (0 : Int64) (6 : Int64) = some 1 := by decide +kernel
theorem w_inN : p_X6_in (-4 : Int32).toInt64 (0 : Int64) (6 : Int64) = some 0 := by decide +kernel
theorem zgL_1' : z_get zgL 4 (1 : Int32) = some (nI 1) := by decide
theorem zgM_1' : z_get zgM 4 (1 : Int32) = some (nI 20) := by decide
theorem zgL_2' : z_get zgL 4 (2 : Int32) = some (nI 0) := by decide
theorem zgM_2' : z_get zgM 4 (2 : Int32) = some (nI 99) := by decide
theorem zgL_3' : z_get zgL 4 (3 : Int32) = some (nI 0) := by decide
theorem zgM_3' : z_get zgM 4 (3 : Int32) = some (nI 60) := by decide
set_option maxHeartbeats 4000000 in
/-- a line that tells a draw -/
theorem l_draw (hB : zBy n c by_ tp_) {p0 p h w d k : Nat} (hp0 : p0 ≤ p) (hpn : p ≤ n) (hw : w < 4) (hd : d ≤ 5) {pg tr : Nat → Int32} {ft po st be ye : Int32} (hP : zPg pg 0 (nI d) ft po st be ye tr) (hN : p_X6_nameHere (nI n) (nI p) (nI h) (nI k) tp_ zcuts zletters = some (nI w)) (num fp ba va once : Int32) : ∃ o5 r5 o6, p_X3_readDraw (nI w) (nI n) (nI p) (nI k) (nI h) num 0 fp by_ (nI d) tr = some o5 ∧ p_X3_readToken (nI n) o5.1 o5.2.1 o5.2.2.1 o5.2.2.2.1 o5.2.2.2.2.1 o5.2.2.2.2.2.1 by_ = some r5 ∧ p_X6_readLine once (nI n) 0 ba (nI p) (nI h) (nI k) va pg tp_ zcuts zletters = some o6 ∧ zTs n p0 r5.1 r5.2.1 r5.2.2.1 r5.2.2.2.1 r5.2.2.2.2.1 r5.2.2.2.2.2 o6.2.1 o6.2.2.1 o6.2.2.2.1 o6.2.2.2.2.1 o6.2.2.2.2.2.1 o6.2.2.2.2.2.2.1 ∧ (r5.2.2.2.2.1 = 0 → zPg o6.2.2.2.2.2.2.2 0 o5.2.2.2.2.2.2.1 ft po st be ye o5.2.2.2.2.2.2.2) ∧ o6.1 = once ||| ((1 : Int32) <<< (nI w &&& 31)) := by
  have g20 : pg 20 = nI d := by
    obtain ⟨d', h1, h2, h3, -⟩ := u_dr hP
    rw [h3, ← h2]
  have gz : z_get pg 26 (20 : Int32) = some (nI d) := by rw [← g20]; exact z_get_n (i := 20) (by decide) (by decide)
  have n3 : ¬ (3 : Int32) < nI w := nI_nlt (a := 3) (by omega) (by decide)
  have l4 : nI w < (4 : Int32) := nI_lt (b := 4) hw (by decide)
  by_cases hf : d = 5
  · subst hf
    have rt := t_rt0 (len := nI n) (pl := nI p) (tok := nI k) (tp := nI h) (num := num) (fp := nI h) (by_ := by_) (show ¬ (5 : Int32) = 0 by decide)
    refine ⟨(nI p, nI k, nI h, num, (5 : Int32), nI h, nI 5, tr), (nI p, nI k, nI h, num, (5 : Int32), nI h), (once ||| ((1 : Int32) <<< (nI w &&& 31)), (5 : Int32), nI h, nI p, nI h, nI k, va, pg), ?_, rt, ?_, Or.inr ⟨5, h, by decide, by decide, rfl, rfl, rfl, rfl⟩, fun z => absurd (show (5 : Int32) = 0 from z) (by decide), rfl⟩
    · unfold p_X3_readDraw p_X4_isFull
      rw [if_neg (show ¬ nI 5 < (5 : Int32) by decide), zbs, if_neg z1n0, fl_0', zbs, zbs, zgL_1', zbs, zgM_1', zbs]
      try dsimp only
      rw [en_b1 rt (by decide), zbs, zgL_2', zbs, zgM_2', zbs]
      try dsimp only
      rw [en_b1 rt (by decide), zbs, zgL_3', zbs, zgM_3', zbs]
      try dsimp only
      rw [en_b1 rt (by decide), zbs]
      try dsimp only
      rw [ec_b1 rt (by decide), zbs]
      try dsimp only
      rw [if_neg (by decide)]
    · unfold p_X6_readLine
      rw [hN, zbs, w_in w (by omega), zbs, if_neg z1n0, if_neg n3, gz, zbs, if_pos (show nI 5 = (5 : Int32) from rfl), fs_0, zbs, zbs, if_pos l4, zbs]
      try dsimp only
      rw [t_st0 (by decide), zbs]
      try dsimp only
      rw [if_neg (by decide)]
  · have hd5 : d < 5 := by omega
    have n5 : ¬ nI d = (5 : Int32) := nI_ne' (b := 5) hf (by omega) (by decide)
    obtain ⟨⟨a1, a2, a3, a4, a5, a6⟩, ⟨b1, b2, b3, b4, b5, b6⟩, s5, s6, sT⟩ := t_step hB (p0 := p0) (pl := nI p) (fl := 0) (fp := fp) (br := 0) (ba := ba) (sp := nI p) (Or.inl ⟨p, hp0, hpn, rfl, rfl, rfl, rfl⟩) (nI k) (nI h) num (nI h) (nI k) va
    have sT' : zTs n p0 a1 a2 a3 a4 a5 a6 b1 b2 b3 b4 b5 b6 := sT
    by_cases hb : b1 ≤ 0
    · obtain ⟨N1, c1, c2, c3, c4, c5, c6, V1, ⟨e1, e2, e3, e4, e5, e6⟩, x1, y1, j1, k1⟩ := t_num hB (⟨_, s5, sT'⟩ : zJs n p0 by_ (nI p) (nI k) (nI h) num 0 fp b1 b2 b3 b4 b5 b6) 1 20 (by decide) (by decide)
      have j1' : zJs n p0 by_ c1 c2 c3 c4 c5 c6 e1 e2 e3 e4 e5 e6 := j1
      obtain ⟨N2, d1, d2, d3, d4, d5, d6, V2, ⟨f1, f2, f3, f4, f5, f6⟩, x2, y2, j2, k2⟩ := t_num hB j1' 0 99 (by decide) (by decide)
      have j2' : zJs n p0 by_ d1 d2 d3 d4 d5 d6 f1 f2 f3 f4 f5 f6 := j2
      obtain ⟨N3, i1, i2, i3, i4, i5, i6, V3, ⟨m1, m2, m3, m4, m5, m6⟩, x3, y3, j3, k3⟩ := t_num hB j2' 0 60 (by decide) (by decide)
      have j3' : zJs n p0 by_ i1 i2 i3 i4 i5 i6 m1 m2 m3 m4 m5 m6 := j3
      obtain ⟨u1, u2, u3, u4, u5, u6, z1, z2, ⟨q1, q2, q3, q4, q5, q6⟩, x4, y4, y5, j4, k4⟩ := t_close hB j3'
      obtain ⟨r5, hr5, hrT⟩ := j4
      have w1 : z_set pg 26 (nI d) (nI w) = some (upd pg d (nI w)) := z_set_n (by omega) (by decide)
      have w2 : ∀ f V, z_set f 26 ((5 : Int32) + nI d) V = some (upd f (5 + d) V) := fun f V => z_set_e (5 + d) (by rw [zi5, nI_add]) (by omega) (by decide)
      have w3 : ∀ f V, z_set f 26 ((10 : Int32) + nI d) V = some (upd f (10 + d) V) := fun f V => z_set_e (10 + d) (by rw [zi10, nI_add]) (by omega) (by decide)
      have w4 : ∀ f V, z_set f 26 ((15 : Int32) + nI d) V = some (upd f (15 + d) V) := fun f V => z_set_e (15 + d) (by rw [zi15, nI_add]) (by omega) (by decide)
      have w5 : ∀ f V, z_set f 26 (20 : Int32) V = some (upd f 20 V) := fun f V => z_set_e 20 rfl (by decide) (by decide)
      have w6 : z_get (upd (upd (upd (upd pg d (nI w)) (5 + d) V1) (10 + d) V2) (15 + d) V3) 26 (20 : Int32) = some (nI d) := by
        refine (z_get_e 20 rfl (by decide) (by decide)).trans ?_
        rw [pk_un (by omega), pk_un (by omega), pk_un (by omega), pk_un (by omega), g20]
      have H6 : p_X6_readLine once (nI n) 0 ba (nI p) (nI h) (nI k) va pg tp_ zcuts zletters = some (once ||| ((1 : Int32) <<< (nI w &&& 31)), q1, q2, q3, q4, q5, q6, upd (upd (upd (upd (upd pg d (nI w)) (5 + d) V1) (10 + d) V2) (15 + d) V3) 20 (nI d + 1)) := by
        unfold p_X6_readLine p_X6_readMore
        rw [hN, zbs, w_in w (by omega), zbs, if_neg z1n0, if_neg n3, gz, zbs, if_neg n5, zbs, if_pos l4, zbs]
        try dsimp only
        rw [s6, zbs]
        try dsimp only
        rw [if_pos hb, if_neg n3, zbs, w1, zbs]
        have y1' : p_X6_number (1 : Int32) (20 : Int32) (nI n) b1 b2 b3 b4 b5 b6 tp_ = some (V1, e1, e2, e3, e4, e5, e6) := y1
        have y2' : p_X6_number (0 : Int32) (99 : Int32) (nI n) e1 e2 e3 e4 e5 e6 tp_ = some (V2, f1, f2, f3, f4, f5, f6) := y2
        have y3' : p_X6_number (0 : Int32) (60 : Int32) (nI n) f1 f2 f3 f4 f5 f6 tp_ = some (V3, m1, m2, m3, m4, m5, m6) := y3
        rw [y1', zbs]
        try dsimp only
        rw [w2, zbs, y2', zbs]
        try dsimp only
        rw [w3, zbs, y3', zbs]
        try dsimp only
        rw [w4, zbs, w6, zbs, w5, zbs, zbs]
        try dsimp only
        rw [y4, zbs]
        try dsimp only
        rw [y5, zbs]
      have H5 : p_X3_readDraw (nI w) (nI n) (nI p) (nI k) (nI h) num 0 fp by_ (nI d) tr = if u5 = 0 then some (u1, u2, u3, u4, u5, u6, nI d + 1, upd (upd (upd (upd tr (4 * d + 0) (nI w)) (4 * d + 1) N1) (4 * d + 2) N2) (4 * d + 3) N3) else some (u1, u2, u3, u4, u5, u6, nI d, tr) := by
        unfold p_X3_readDraw p_X4_isFull
        rw [if_pos (show nI d < (5 : Int32) from nI_lt (b := 5) hd5 (by decide)), zbs, if_pos rfl, zbs, zgL_1', zbs, zgM_1', zbs]
        try dsimp only
        rw [x1, zbs, zgL_2', zbs, zgM_2', zbs]
        try dsimp only
        rw [x2, zbs, zgL_3', zbs, zgM_3', zbs]
        try dsimp only
        rw [x3, zbs]
        try dsimp only
        rw [x4, zbs]
        try dsimp only
        rw [a_addT hd5, zbs]
      by_cases hu : u5 = 0
      · rw [if_pos hu] at H5
        refine ⟨_, r5, _, H5, hr5, H6, hrT, fun _ => ?_, rfl⟩
        obtain ⟨t3, v3, a3', b3', c3', d3'⟩ := k3 (k4 hu)
        obtain ⟨t2, v2, a2', b2', c2', d2'⟩ := k2 t3
        obtain ⟨t1, v1, a1', b1', c1', d1'⟩ := k1 t2
        subst c1' d1' c2' d2' c3' d3'
        exact u_add hP hd5 (by omega) ⟨a1', b1'⟩ (by omega) b3'
      · rw [if_neg hu] at H5
        refine ⟨_, r5, _, H5, hr5, H6, hrT, fun z => absurd (rt_fl hr5 z) hu, rfl⟩
    · rcases sT' with ⟨p', h', k', v', g1, g2, g3, g4, g5, g6, q7, q8, q9, g10, q11, q12, q13⟩ | hbd
      · exact absurd (show b1 ≤ 0 by rw [q12]; decide) hb
      · obtain ⟨z1, z2, z3⟩ := zBd_n hbd
        have rt := t_rt0 (len := nI n) (pl := a1) (tok := a2) (tp := a3) (num := a4) (fp := a6) (by_ := by_) z1
        refine ⟨(a1, a2, a3, a4, a5, a6, nI d, tr), (a1, a2, a3, a4, a5, a6), (once ||| ((1 : Int32) <<< (nI w &&& 31)), b1, b2, b3, b4, b5, b6, pg), ?_, rt, ?_, Or.inr hbd, fun z => absurd z z1, rfl⟩
        · unfold p_X3_readDraw p_X4_isFull
          rw [if_pos (show nI d < (5 : Int32) from nI_lt (b := 5) hd5 (by decide)), zbs, if_pos rfl, zbs, zgL_1', zbs, zgM_1', zbs]
          try dsimp only
          rw [en_b1 s5 z1, zbs, zgL_2', zbs, zgM_2', zbs]
          try dsimp only
          rw [en_b1 rt z1, zbs, zgL_3', zbs, zgM_3', zbs]
          try dsimp only
          rw [en_b1 rt z1, zbs]
          try dsimp only
          rw [ec_b1 rt z1, zbs]
          try dsimp only
          rw [if_neg z1]
        · unfold p_X6_readLine
          rw [hN, zbs, w_in w (by omega), zbs, if_neg z1n0, if_neg n3, gz, zbs, if_neg n5, zbs, if_pos l4, zbs]
          try dsimp only
          rw [s6, zbs]
          try dsimp only
          rw [if_neg hb]
/-! bits of what was told -/
theorem bt_1 : ∀ i, i < 32 → bt 1 i = decide (i = 0) := by decide +kernel
theorem bt_sh (x : Int32) {w : Nat} (hw : w < 31) : (x >>> (nI w &&& 31)) &&& (1 : Int32) = zbI (bt x w) := by
  refine b_ext (fun i hi => ?_)
  rw [b_and, b_sshr w (by omega) x hi, bt_1 i hi]
  by_cases e : i = 0
  · rw [e, decide_eq_true (show (0 : Nat) = 0 from rfl), Bool.and_true, if_pos (by omega), Nat.add_zero]
    cases bt x w <;> decide
  · rw [decide_eq_false e, Bool.and_false]
    cases bt x w
    · exact (b_0 i).symm
    · exact (by rw [zbI_t, bt_1 i hi, decide_eq_false e])
theorem bt_or (x : Int32) {w j : Nat} (hw : w < 32) (hj : j < 32) : bt (x ||| ((1 : Int32) <<< (nI w &&& 31))) j = (bt x j || decide (j = w)) := by
  rw [b_or, b_shl w hw 1 hj]
  by_cases e : j = w
  · rw [e, decide_eq_true (Nat.le_refl w), Nat.sub_self, bt_1 0 (by decide), decide_eq_true (show (0 : Nat) = 0 from rfl), decide_eq_true (show w = w from rfl)]; try rfl
  · rw [decide_eq_false e]
    by_cases l : w ≤ j
    · rw [decide_eq_true l, bt_1 (j - w) (by omega), decide_eq_false (by omega)]; try rfl
    · rw [decide_eq_false l, Bool.false_and]
theorem ms_4 : p_X3_mostOfSetting (nI 4) = some (nI 99) := by decide
set_option maxHeartbeats 4000000 in
/-- a line that tells a setting -/
theorem l_set4 (hB : zBy n c by_ tp_) {p0 p h k : Nat} (hp0 : p0 ≤ p) (hpn : p ≤ n) {pg tr : Nat → Int32} {dr ft po st be ye : Int32} (hP : zPg pg 0 dr ft po st be ye tr) (hN : p_X6_nameHere (nI n) (nI p) (nI h) (nI k) tp_ zcuts zletters = some (nI 4)) {told once : Int32} (hto : bt told 4 = bt once 4) (num fp ba va : Int32) : ∃ o5 r5 o6, p_X3_readSetting (nI 4) (nI n) (nI p) (nI k) (nI h) num told 0 fp by_ ft po st be = some o5 ∧ p_X3_readToken (nI n) o5.1 o5.2.1 o5.2.2.1 o5.2.2.2.1 o5.2.2.2.2.2.1 o5.2.2.2.2.2.2.1 by_ = some r5 ∧ p_X6_readLine once (nI n) 0 ba (nI p) (nI h) (nI k) va pg tp_ zcuts zletters = some o6 ∧ zTs n p0 r5.1 r5.2.1 r5.2.2.1 r5.2.2.2.1 r5.2.2.2.2.1 r5.2.2.2.2.2 o6.2.1 o6.2.2.1 o6.2.2.2.1 o6.2.2.2.2.1 o6.2.2.2.2.2.1 o6.2.2.2.2.2.2.1 ∧ (r5.2.2.2.2.1 = 0 → zPg o6.2.2.2.2.2.2.2 0 dr o5.2.2.2.2.2.2.2.1 o5.2.2.2.2.2.2.2.2.1 o5.2.2.2.2.2.2.2.2.2.1 o5.2.2.2.2.2.2.2.2.2.2 ye tr) ∧ o6.1 = once ||| ((1 : Int32) <<< (nI 4 &&& 31)) ∧ o5.2.2.2.2.1 = told ||| ((1 : Int32) <<< (nI 4 &&& 31)) := by
  have n3 : (3 : Int32) < nI 4 := by decide
  have l4 : ¬ nI 4 < (4 : Int32) := by decide
  have t5 := bt_sh told (show 4 < 31 by decide)
  have t6 := bt_sh once (show 4 < 31 by decide)
  rw [hto] at t5
  cases hbit : bt once 4
  · rw [hbit, zbI_f] at t5 t6
    have c5 : ¬ ((told >>> (nI 4 &&& 31)) &&& (1 : Int32)) = (1 : Int32) := by rw [t5]; decide
    have c6 : ¬ ((once >>> (nI 4 &&& 31)) &&& (1 : Int32)) = (1 : Int32) := by rw [t6]; decide
    obtain ⟨⟨a1, a2, a3, a4, a5, a6⟩, ⟨b1, b2, b3, b4, b5, b6⟩, s5, s6, sT⟩ := t_step hB (p0 := p0) (pl := nI p) (fl := 0) (fp := fp) (br := 0) (ba := ba) (sp := nI p) (Or.inl ⟨p, hp0, hpn, rfl, rfl, rfl, rfl⟩) (nI k) (nI h) num (nI h) (nI k) va
    have sT' : zTs n p0 a1 a2 a3 a4 a5 a6 b1 b2 b3 b4 b5 b6 := sT
    by_cases hb : b1 ≤ 0
    · obtain ⟨N1, c1, c2, c3, c4, c5', c6', V1, ⟨e1, e2, e3, e4, e5, e6⟩, x1, y1, j1, k1⟩ := t_num hB (⟨_, s5, sT'⟩ : zJs n p0 by_ (nI p) (nI k) (nI h) num 0 fp b1 b2 b3 b4 b5 b6) 0 99 (by decide) (by decide)
      have j1' : zJs n p0 by_ c1 c2 c3 c4 c5' c6' e1 e2 e3 e4 e5 e6 := j1
      obtain ⟨u1, u2, u3, u4, u5, u6, z1, z2, ⟨q1, q2, q3, q4, q5, q6⟩, x4, y4, y5, j4, k4⟩ := t_close hB j1'
      obtain ⟨r5, hr5, hrT⟩ := j4
      have w7 : ∀ f V, z_set f 26 (21 : Int32) V = some (upd f 21 V) := fun f V => z_set_e 21 rfl (by decide) (by decide)
      have w8 : ∀ f V, z_set f 26 (22 : Int32) V = some (upd f 22 V) := fun f V => z_set_e 22 rfl (by decide) (by decide)
      have w9 : z_get (upd pg 21 (V1 - 44)) 26 (21 : Int32) = some (V1 - 44) := (z_get_e 21 rfl (by decide) (by decide)).trans (by rw [pk_us])
      have H6 : p_X6_readLine once (nI n) 0 ba (nI p) (nI h) (nI k) va pg tp_ zcuts zletters = some (once ||| ((1 : Int32) <<< (nI 4 &&& 31)), q1, q2, q3, q4, q5, q6, upd (upd pg 21 (V1 - 44)) 22 (V1 - 44)) := by
        unfold p_X6_readLine p_X6_readMore
        rw [hN, zbs, w_in 4 (by decide), zbs, if_neg z1n0, if_pos n3, zbs, if_neg l4]
        try dsimp only
        rw [if_neg c6, zbs]
        try dsimp only
        rw [s6, zbs]
        try dsimp only
        rw [if_pos hb, if_pos n3, if_pos (show nI 4 = (4 : Int32) from rfl)]
        have y1' : p_X6_number (0 : Int32) (99 : Int32) (nI n) b1 b2 b3 b4 b5 b6 tp_ = some (V1, e1, e2, e3, e4, e5, e6) := y1
        rw [y1', zbs]
        try dsimp only
        rw [w7, zbs, w9, zbs, w8, zbs, zbs]
        try dsimp only
        rw [y4, zbs]
        try dsimp only
        rw [y5, zbs]
      have H5 : p_X3_readSetting (nI 4) (nI n) (nI p) (nI k) (nI h) num told 0 fp by_ ft po st be = if u5 = 0 then some (u1, u2, u3, u4, told ||| ((1 : Int32) <<< (nI 4 &&& 31)), u5, u6, N1, N1, st, be) else some (u1, u2, u3, u4, told ||| ((1 : Int32) <<< (nI 4 &&& 31)), u5, u6, ft, po, st, be) := by
        unfold p_X3_readSetting
        rw [if_neg c5, zbs, ms_4, zbs]
        try dsimp only
        have x1' : p_X3_expectNumber (0 : Int32) (nI 99) (nI n) (nI p) (nI k) (nI h) num 0 fp by_ = some (N1, c1, c2, c3, c4, c5', c6') := x1
        rw [x1', zbs]
        try dsimp only
        rw [x4, zbs]
        try dsimp only
        rw [if_pos (show nI 4 = (4 : Int32) from rfl)]
      by_cases hu : u5 = 0
      · rw [if_pos hu] at H5
        refine ⟨_, r5, _, H5, hr5, H6, hrT, fun _ => ?_, rfl, rfl⟩
        obtain ⟨t1, v1, a1', b1', c1', d1'⟩ := k1 (k4 hu)
        subst c1' d1'
        exact u_ft hP (by omega)
      · rw [if_neg hu] at H5
        refine ⟨_, r5, _, H5, hr5, H6, hrT, fun z => absurd (rt_fl hr5 z) hu, rfl, rfl⟩
    · rcases sT' with ⟨p', h', k', v', g1, g2, g3, g4, g5, g6, q7, q8, q9, g10, q11, q12, q13⟩ | hbd
      · exact absurd (show b1 ≤ 0 by rw [q12]; decide) hb
      · obtain ⟨z1, z2, z3⟩ := zBd_n hbd
        have rt := t_rt0 (len := nI n) (pl := a1) (tok := a2) (tp := a3) (num := a4) (fp := a6) (by_ := by_) z1
        refine ⟨(a1, a2, a3, a4, told ||| ((1 : Int32) <<< (nI 4 &&& 31)), a5, a6, ft, po, st, be), (a1, a2, a3, a4, a5, a6), (once ||| ((1 : Int32) <<< (nI 4 &&& 31)), b1, b2, b3, b4, b5, b6, pg), ?_, rt, ?_, Or.inr hbd, fun z => absurd z z1, rfl, rfl⟩
        · unfold p_X3_readSetting
          rw [if_neg c5, zbs, ms_4, zbs]
          try dsimp only
          rw [en_b1 s5 z1, zbs]
          try dsimp only
          rw [ec_b1 rt z1, zbs]
          try dsimp only
          rw [if_neg z1]
        · unfold p_X6_readLine
          rw [hN, zbs, w_in 4 (by decide), zbs, if_neg z1n0, if_pos n3, zbs, if_neg l4]
          try dsimp only
          rw [if_neg c6, zbs]
          try dsimp only
          rw [s6, zbs]
          try dsimp only
          rw [if_neg hb]
  · rw [hbit, zbI_t] at t5 t6
    have rt := t_rt0 (len := nI n) (pl := nI p) (tok := nI k) (tp := nI h) (num := num) (fp := nI h) (by_ := by_) (show ¬ (4 : Int32) = 0 by decide)
    refine ⟨(nI p, nI k, nI h, num, told ||| ((1 : Int32) <<< (nI 4 &&& 31)), (4 : Int32), nI h, ft, po, st, be), (nI p, nI k, nI h, num, (4 : Int32), nI h), (once ||| ((1 : Int32) <<< (nI 4 &&& 31)), (4 : Int32), nI h, nI p, nI h, nI k, va, pg), ?_, rt, ?_, Or.inr ⟨4, h, by decide, by decide, rfl, rfl, rfl, rfl⟩, fun z => absurd (show (4 : Int32) = 0 from z) (by decide), rfl, rfl⟩
    · unfold p_X3_readSetting
      rw [if_pos t5, fl_0', zbs, zbs, ms_4, zbs]
      try dsimp only
      rw [en_b1 rt (by decide), zbs]
      try dsimp only
      rw [ec_b1 rt (by decide), zbs]
      try dsimp only
      rw [if_neg (by decide)]
    · unfold p_X6_readLine
      rw [hN, zbs, w_in 4 (by decide), zbs, if_neg z1n0, if_pos n3, zbs, if_neg l4]
      try dsimp only
      rw [if_pos t6, fs_0, zbs, zbs]
      try dsimp only
      rw [t_st0 (by decide), zbs]
      try dsimp only
      rw [if_neg (by decide)]
theorem ms_5 : p_X3_mostOfSetting (nI 5) = some (nI 20) := by decide
set_option maxHeartbeats 4000000 in
/-- a line that tells a setting -/
theorem l_set5 (hB : zBy n c by_ tp_) {p0 p h k : Nat} (hp0 : p0 ≤ p) (hpn : p ≤ n) {pg tr : Nat → Int32} {dr ft po st be ye : Int32} (hP : zPg pg 0 dr ft po st be ye tr) (hN : p_X6_nameHere (nI n) (nI p) (nI h) (nI k) tp_ zcuts zletters = some (nI 5)) {told once : Int32} (hto : bt told 5 = bt once 5) (num fp ba va : Int32) : ∃ o5 r5 o6, p_X3_readSetting (nI 5) (nI n) (nI p) (nI k) (nI h) num told 0 fp by_ ft po st be = some o5 ∧ p_X3_readToken (nI n) o5.1 o5.2.1 o5.2.2.1 o5.2.2.2.1 o5.2.2.2.2.2.1 o5.2.2.2.2.2.2.1 by_ = some r5 ∧ p_X6_readLine once (nI n) 0 ba (nI p) (nI h) (nI k) va pg tp_ zcuts zletters = some o6 ∧ zTs n p0 r5.1 r5.2.1 r5.2.2.1 r5.2.2.2.1 r5.2.2.2.2.1 r5.2.2.2.2.2 o6.2.1 o6.2.2.1 o6.2.2.2.1 o6.2.2.2.2.1 o6.2.2.2.2.2.1 o6.2.2.2.2.2.2.1 ∧ (r5.2.2.2.2.1 = 0 → zPg o6.2.2.2.2.2.2.2 0 dr o5.2.2.2.2.2.2.2.1 o5.2.2.2.2.2.2.2.2.1 o5.2.2.2.2.2.2.2.2.2.1 o5.2.2.2.2.2.2.2.2.2.2 ye tr) ∧ o6.1 = once ||| ((1 : Int32) <<< (nI 5 &&& 31)) ∧ o5.2.2.2.2.1 = told ||| ((1 : Int32) <<< (nI 5 &&& 31)) := by
  have n3 : (3 : Int32) < nI 5 := by decide
  have l4 : ¬ nI 5 < (4 : Int32) := by decide
  have t5 := bt_sh told (show 5 < 31 by decide)
  have t6 := bt_sh once (show 5 < 31 by decide)
  rw [hto] at t5
  cases hbit : bt once 5
  · rw [hbit, zbI_f] at t5 t6
    have c5 : ¬ ((told >>> (nI 5 &&& 31)) &&& (1 : Int32)) = (1 : Int32) := by rw [t5]; decide
    have c6 : ¬ ((once >>> (nI 5 &&& 31)) &&& (1 : Int32)) = (1 : Int32) := by rw [t6]; decide
    obtain ⟨⟨a1, a2, a3, a4, a5, a6⟩, ⟨b1, b2, b3, b4, b5, b6⟩, s5, s6, sT⟩ := t_step hB (p0 := p0) (pl := nI p) (fl := 0) (fp := fp) (br := 0) (ba := ba) (sp := nI p) (Or.inl ⟨p, hp0, hpn, rfl, rfl, rfl, rfl⟩) (nI k) (nI h) num (nI h) (nI k) va
    have sT' : zTs n p0 a1 a2 a3 a4 a5 a6 b1 b2 b3 b4 b5 b6 := sT
    by_cases hb : b1 ≤ 0
    · obtain ⟨N1, c1, c2, c3, c4, c5', c6', V1, ⟨e1, e2, e3, e4, e5, e6⟩, x1, y1, j1, k1⟩ := t_num hB (⟨_, s5, sT'⟩ : zJs n p0 by_ (nI p) (nI k) (nI h) num 0 fp b1 b2 b3 b4 b5 b6) 0 20 (by decide) (by decide)
      have j1' : zJs n p0 by_ c1 c2 c3 c4 c5' c6' e1 e2 e3 e4 e5 e6 := j1
      obtain ⟨u1, u2, u3, u4, u5, u6, z1, z2, ⟨q1, q2, q3, q4, q5, q6⟩, x4, y4, y5, j4, k4⟩ := t_close hB j1'
      obtain ⟨r5, hr5, hrT⟩ := j4
      have w7 : ∀ f V, z_set f 26 (23 : Int32) V = some (upd f 23 V) := fun f V => z_set_e 23 rfl (by decide) (by decide)
      have H6 : p_X6_readLine once (nI n) 0 ba (nI p) (nI h) (nI k) va pg tp_ zcuts zletters = some (once ||| ((1 : Int32) <<< (nI 5 &&& 31)), q1, q2, q3, q4, q5, q6, upd pg 23 (V1 - 2)) := by
        unfold p_X6_readLine p_X6_readMore
        rw [hN, zbs, w_in 5 (by decide), zbs, if_neg z1n0, if_pos n3, zbs, if_neg l4]
        try dsimp only
        rw [if_neg c6, zbs]
        try dsimp only
        rw [s6, zbs]
        try dsimp only
        rw [if_pos hb, if_pos n3, if_neg (show ¬ nI 5 = (4 : Int32) by decide), if_pos (show nI 5 = (5 : Int32) from rfl)]
        have y1' : p_X6_number (0 : Int32) (20 : Int32) (nI n) b1 b2 b3 b4 b5 b6 tp_ = some (V1, e1, e2, e3, e4, e5, e6) := y1
        rw [y1', zbs]
        try dsimp only
        rw [w7, zbs, zbs]
        try dsimp only
        rw [y4, zbs]
        try dsimp only
        rw [y5, zbs]
      have H5 : p_X3_readSetting (nI 5) (nI n) (nI p) (nI k) (nI h) num told 0 fp by_ ft po st be = if u5 = 0 then some (u1, u2, u3, u4, told ||| ((1 : Int32) <<< (nI 5 &&& 31)), u5, u6, ft, po, N1, be) else some (u1, u2, u3, u4, told ||| ((1 : Int32) <<< (nI 5 &&& 31)), u5, u6, ft, po, st, be) := by
        unfold p_X3_readSetting
        rw [if_neg c5, zbs, ms_5, zbs]
        try dsimp only
        have x1' : p_X3_expectNumber (0 : Int32) (nI 20) (nI n) (nI p) (nI k) (nI h) num 0 fp by_ = some (N1, c1, c2, c3, c4, c5', c6') := x1
        rw [x1', zbs]
        try dsimp only
        rw [x4, zbs]
        try dsimp only
        rw [if_neg (show ¬ nI 5 = (4 : Int32) by decide), if_pos (show nI 5 = (5 : Int32) from rfl)]
      by_cases hu : u5 = 0
      · rw [if_pos hu] at H5
        refine ⟨_, r5, _, H5, hr5, H6, hrT, fun _ => ?_, rfl, rfl⟩
        obtain ⟨t1, v1, a1', b1', c1', d1'⟩ := k1 (k4 hu)
        subst c1' d1'
        exact (u_st hP b1').2
      · rw [if_neg hu] at H5
        refine ⟨_, r5, _, H5, hr5, H6, hrT, fun z => absurd (rt_fl hr5 z) hu, rfl, rfl⟩
    · rcases sT' with ⟨p', h', k', v', g1, g2, g3, g4, g5, g6, q7, q8, q9, g10, q11, q12, q13⟩ | hbd
      · exact absurd (show b1 ≤ 0 by rw [q12]; decide) hb
      · obtain ⟨z1, z2, z3⟩ := zBd_n hbd
        have rt := t_rt0 (len := nI n) (pl := a1) (tok := a2) (tp := a3) (num := a4) (fp := a6) (by_ := by_) z1
        refine ⟨(a1, a2, a3, a4, told ||| ((1 : Int32) <<< (nI 5 &&& 31)), a5, a6, ft, po, st, be), (a1, a2, a3, a4, a5, a6), (once ||| ((1 : Int32) <<< (nI 5 &&& 31)), b1, b2, b3, b4, b5, b6, pg), ?_, rt, ?_, Or.inr hbd, fun z => absurd z z1, rfl, rfl⟩
        · unfold p_X3_readSetting
          rw [if_neg c5, zbs, ms_5, zbs]
          try dsimp only
          rw [en_b1 s5 z1, zbs]
          try dsimp only
          rw [ec_b1 rt z1, zbs]
          try dsimp only
          rw [if_neg z1]
        · unfold p_X6_readLine
          rw [hN, zbs, w_in 5 (by decide), zbs, if_neg z1n0, if_pos n3, zbs, if_neg l4]
          try dsimp only
          rw [if_neg c6, zbs]
          try dsimp only
          rw [s6, zbs]
          try dsimp only
          rw [if_neg hb]
  · rw [hbit, zbI_t] at t5 t6
    have rt := t_rt0 (len := nI n) (pl := nI p) (tok := nI k) (tp := nI h) (num := num) (fp := nI h) (by_ := by_) (show ¬ (4 : Int32) = 0 by decide)
    refine ⟨(nI p, nI k, nI h, num, told ||| ((1 : Int32) <<< (nI 5 &&& 31)), (4 : Int32), nI h, ft, po, st, be), (nI p, nI k, nI h, num, (4 : Int32), nI h), (once ||| ((1 : Int32) <<< (nI 5 &&& 31)), (4 : Int32), nI h, nI p, nI h, nI k, va, pg), ?_, rt, ?_, Or.inr ⟨4, h, by decide, by decide, rfl, rfl, rfl, rfl⟩, fun z => absurd (show (4 : Int32) = 0 from z) (by decide), rfl, rfl⟩
    · unfold p_X3_readSetting
      rw [if_pos t5, fl_0', zbs, zbs, ms_5, zbs]
      try dsimp only
      rw [en_b1 rt (by decide), zbs]
      try dsimp only
      rw [ec_b1 rt (by decide), zbs]
      try dsimp only
      rw [if_neg (by decide)]
    · unfold p_X6_readLine
      rw [hN, zbs, w_in 5 (by decide), zbs, if_neg z1n0, if_pos n3, zbs, if_neg l4]
      try dsimp only
      rw [if_pos t6, fs_0, zbs, zbs]
      try dsimp only
      rw [t_st0 (by decide), zbs]
      try dsimp only
      rw [if_neg (by decide)]
theorem ms_6 : p_X3_mostOfSetting (nI 6) = some (nI 18) := by decide
set_option maxHeartbeats 4000000 in
/-- a line that tells a setting -/
theorem l_set6 (hB : zBy n c by_ tp_) {p0 p h k : Nat} (hp0 : p0 ≤ p) (hpn : p ≤ n) {pg tr : Nat → Int32} {dr ft po st be ye : Int32} (hP : zPg pg 0 dr ft po st be ye tr) (hN : p_X6_nameHere (nI n) (nI p) (nI h) (nI k) tp_ zcuts zletters = some (nI 6)) {told once : Int32} (hto : bt told 6 = bt once 6) (num fp ba va : Int32) : ∃ o5 r5 o6, p_X3_readSetting (nI 6) (nI n) (nI p) (nI k) (nI h) num told 0 fp by_ ft po st be = some o5 ∧ p_X3_readToken (nI n) o5.1 o5.2.1 o5.2.2.1 o5.2.2.2.1 o5.2.2.2.2.2.1 o5.2.2.2.2.2.2.1 by_ = some r5 ∧ p_X6_readLine once (nI n) 0 ba (nI p) (nI h) (nI k) va pg tp_ zcuts zletters = some o6 ∧ zTs n p0 r5.1 r5.2.1 r5.2.2.1 r5.2.2.2.1 r5.2.2.2.2.1 r5.2.2.2.2.2 o6.2.1 o6.2.2.1 o6.2.2.2.1 o6.2.2.2.2.1 o6.2.2.2.2.2.1 o6.2.2.2.2.2.2.1 ∧ (r5.2.2.2.2.1 = 0 → zPg o6.2.2.2.2.2.2.2 0 dr o5.2.2.2.2.2.2.2.1 o5.2.2.2.2.2.2.2.2.1 o5.2.2.2.2.2.2.2.2.2.1 o5.2.2.2.2.2.2.2.2.2.2 ye tr) ∧ o6.1 = once ||| ((1 : Int32) <<< (nI 6 &&& 31)) ∧ o5.2.2.2.2.1 = told ||| ((1 : Int32) <<< (nI 6 &&& 31)) := by
  have n3 : (3 : Int32) < nI 6 := by decide
  have l4 : ¬ nI 6 < (4 : Int32) := by decide
  have t5 := bt_sh told (show 6 < 31 by decide)
  have t6 := bt_sh once (show 6 < 31 by decide)
  rw [hto] at t5
  cases hbit : bt once 6
  · rw [hbit, zbI_f] at t5 t6
    have c5 : ¬ ((told >>> (nI 6 &&& 31)) &&& (1 : Int32)) = (1 : Int32) := by rw [t5]; decide
    have c6 : ¬ ((once >>> (nI 6 &&& 31)) &&& (1 : Int32)) = (1 : Int32) := by rw [t6]; decide
    obtain ⟨⟨a1, a2, a3, a4, a5, a6⟩, ⟨b1, b2, b3, b4, b5, b6⟩, s5, s6, sT⟩ := t_step hB (p0 := p0) (pl := nI p) (fl := 0) (fp := fp) (br := 0) (ba := ba) (sp := nI p) (Or.inl ⟨p, hp0, hpn, rfl, rfl, rfl, rfl⟩) (nI k) (nI h) num (nI h) (nI k) va
    have sT' : zTs n p0 a1 a2 a3 a4 a5 a6 b1 b2 b3 b4 b5 b6 := sT
    by_cases hb : b1 ≤ 0
    · obtain ⟨N1, c1, c2, c3, c4, c5', c6', V1, ⟨e1, e2, e3, e4, e5, e6⟩, x1, y1, j1, k1⟩ := t_num hB (⟨_, s5, sT'⟩ : zJs n p0 by_ (nI p) (nI k) (nI h) num 0 fp b1 b2 b3 b4 b5 b6) 0 18 (by decide) (by decide)
      have j1' : zJs n p0 by_ c1 c2 c3 c4 c5' c6' e1 e2 e3 e4 e5 e6 := j1
      obtain ⟨u1, u2, u3, u4, u5, u6, z1, z2, ⟨q1, q2, q3, q4, q5, q6⟩, x4, y4, y5, j4, k4⟩ := t_close hB j1'
      obtain ⟨r5, hr5, hrT⟩ := j4
      have w7 : ∀ f V, z_set f 26 (24 : Int32) V = some (upd f 24 V) := fun f V => z_set_e 24 rfl (by decide) (by decide)
      have H6 : p_X6_readLine once (nI n) 0 ba (nI p) (nI h) (nI k) va pg tp_ zcuts zletters = some (once ||| ((1 : Int32) <<< (nI 6 &&& 31)), q1, q2, q3, q4, q5, q6, upd pg 24 (V1 - 9)) := by
        unfold p_X6_readLine p_X6_readMore
        rw [hN, zbs, w_in 6 (by decide), zbs, if_neg z1n0, if_pos n3, zbs, if_neg l4]
        try dsimp only
        rw [if_neg c6, zbs]
        try dsimp only
        rw [s6, zbs]
        try dsimp only
        rw [if_pos hb, if_pos n3, if_neg (show ¬ nI 6 = (4 : Int32) by decide), if_neg (show ¬ nI 6 = (5 : Int32) by decide)]
        have y1' : p_X6_number (0 : Int32) (18 : Int32) (nI n) b1 b2 b3 b4 b5 b6 tp_ = some (V1, e1, e2, e3, e4, e5, e6) := y1
        rw [y1', zbs]
        try dsimp only
        rw [w7, zbs, zbs]
        try dsimp only
        rw [y4, zbs]
        try dsimp only
        rw [y5, zbs]
      have H5 : p_X3_readSetting (nI 6) (nI n) (nI p) (nI k) (nI h) num told 0 fp by_ ft po st be = if u5 = 0 then some (u1, u2, u3, u4, told ||| ((1 : Int32) <<< (nI 6 &&& 31)), u5, u6, ft, po, st, N1) else some (u1, u2, u3, u4, told ||| ((1 : Int32) <<< (nI 6 &&& 31)), u5, u6, ft, po, st, be) := by
        unfold p_X3_readSetting
        rw [if_neg c5, zbs, ms_6, zbs]
        try dsimp only
        have x1' : p_X3_expectNumber (0 : Int32) (nI 18) (nI n) (nI p) (nI k) (nI h) num 0 fp by_ = some (N1, c1, c2, c3, c4, c5', c6') := x1
        rw [x1', zbs]
        try dsimp only
        rw [x4, zbs]
        try dsimp only
        rw [if_neg (show ¬ nI 6 = (4 : Int32) by decide), if_neg (show ¬ nI 6 = (5 : Int32) by decide)]
      by_cases hu : u5 = 0
      · rw [if_pos hu] at H5
        refine ⟨_, r5, _, H5, hr5, H6, hrT, fun _ => ?_, rfl, rfl⟩
        obtain ⟨t1, v1, a1', b1', c1', d1'⟩ := k1 (k4 hu)
        subst c1' d1'
        exact (u_be hP b1').2
      · rw [if_neg hu] at H5
        refine ⟨_, r5, _, H5, hr5, H6, hrT, fun z => absurd (rt_fl hr5 z) hu, rfl, rfl⟩
    · rcases sT' with ⟨p', h', k', v', g1, g2, g3, g4, g5, g6, q7, q8, q9, g10, q11, q12, q13⟩ | hbd
      · exact absurd (show b1 ≤ 0 by rw [q12]; decide) hb
      · obtain ⟨z1, z2, z3⟩ := zBd_n hbd
        have rt := t_rt0 (len := nI n) (pl := a1) (tok := a2) (tp := a3) (num := a4) (fp := a6) (by_ := by_) z1
        refine ⟨(a1, a2, a3, a4, told ||| ((1 : Int32) <<< (nI 6 &&& 31)), a5, a6, ft, po, st, be), (a1, a2, a3, a4, a5, a6), (once ||| ((1 : Int32) <<< (nI 6 &&& 31)), b1, b2, b3, b4, b5, b6, pg), ?_, rt, ?_, Or.inr hbd, fun z => absurd z z1, rfl, rfl⟩
        · unfold p_X3_readSetting
          rw [if_neg c5, zbs, ms_6, zbs]
          try dsimp only
          rw [en_b1 s5 z1, zbs]
          try dsimp only
          rw [ec_b1 rt z1, zbs]
          try dsimp only
          rw [if_neg z1]
        · unfold p_X6_readLine
          rw [hN, zbs, w_in 6 (by decide), zbs, if_neg z1n0, if_pos n3, zbs, if_neg l4]
          try dsimp only
          rw [if_neg c6, zbs]
          try dsimp only
          rw [s6, zbs]
          try dsimp only
          rw [if_neg hb]
  · rw [hbit, zbI_t] at t5 t6
    have rt := t_rt0 (len := nI n) (pl := nI p) (tok := nI k) (tp := nI h) (num := num) (fp := nI h) (by_ := by_) (show ¬ (4 : Int32) = 0 by decide)
    refine ⟨(nI p, nI k, nI h, num, told ||| ((1 : Int32) <<< (nI 6 &&& 31)), (4 : Int32), nI h, ft, po, st, be), (nI p, nI k, nI h, num, (4 : Int32), nI h), (once ||| ((1 : Int32) <<< (nI 6 &&& 31)), (4 : Int32), nI h, nI p, nI h, nI k, va, pg), ?_, rt, ?_, Or.inr ⟨4, h, by decide, by decide, rfl, rfl, rfl, rfl⟩, fun z => absurd (show (4 : Int32) = 0 from z) (by decide), rfl, rfl⟩
    · unfold p_X3_readSetting
      rw [if_pos t5, fl_0', zbs, zbs, ms_6, zbs]
      try dsimp only
      rw [en_b1 rt (by decide), zbs]
      try dsimp only
      rw [ec_b1 rt (by decide), zbs]
      try dsimp only
      rw [if_neg (by decide)]
    · unfold p_X6_readLine
      rw [hN, zbs, w_in 6 (by decide), zbs, if_neg z1n0, if_pos n3, zbs, if_neg l4]
      try dsimp only
      rw [if_pos t6, fs_0, zbs, zbs]
      try dsimp only
      rw [t_st0 (by decide), zbs]
      try dsimp only
      rw [if_neg (by decide)]
end ZLN
