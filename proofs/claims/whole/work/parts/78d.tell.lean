/-! TEXT: the lines, one after the other, on both sides -/
def zIt (n m : Nat) (x : Int32 × Int32 × Int32 × Int32 × Int32 × Int32 × Int32 × Int32 × Int32 × Int32 × Int32 × Int32 × Int32 × (Nat → Int32)) (y : Int32 × Int32 × Int32 × Int32 × Int32 × Int32 × Int32 × Int32 × (Nat → Int32)) : Prop :=
  ∃ (L p0 : Nat) (pl tok tp num told fl fp dr ft po st be : Int32) (tr : Nat → Int32) (once br ba sp he tk va : Int32) (pg : Nat → Int32), x = (nI L, pl, tok, tp, num, told, fl, fp, dr, ft, po, st, be, tr) ∧ y = (nI L, once, br, ba, sp, he, tk, va, pg) ∧ ((m = n + 1 - p0 ∧ L ≤ p0 ∧ zGd n p0 pl tok tp num fl br sp he tk va ∧ zPg pg 0 dr ft po st be 0 tr ∧ ∀ j, 4 ≤ j → j ≤ 6 → bt told j = bt once j) ∨ zBd fl fp br ba)
def zRt (x : Int32 × Int32 × Int32 × Int32 × Int32 × Int32 × Int32 × Int32 × Int32 × Int32 × Int32 × Int32 × Int32 × (Nat → Int32)) (y : Int32 × Int32 × Int32 × Int32 × Int32 × Int32 × Int32 × Int32 × (Nat → Int32)) : Prop :=
  ∃ (L : Nat) (pl tok tp num told fl fp dr ft po st be : Int32) (tr : Nat → Int32) (once br ba sp he tk va : Int32) (pg : Nat → Int32), x = (nI L, pl, tok, tp, num, told, fl, fp, dr, ft, po, st, be, tr) ∧ y = (nI L, once, br, ba, sp, he, tk, va, pg) ∧ ((fl = 0 ∧ br = 0 ∧ zPg pg 0 dr ft po st be 0 tr) ∨ zBd fl fp br ba)
section ZTE
variable {n : Nat} {c : Nat → Nat} {by_ tp_ : Nat → Int32}
theorem i_next {p0 L h : Nat} (hL : L ≤ p0) (h1 : p0 ≤ h) (h2 : h < n) {a1 a2 a3 a4 a5 a6 b1 b2 b3 b4 b5 b6 told dr ft po st be once : Int32} {tr pg : Nat → Int32} (hT : zTs n (h + 1) a1 a2 a3 a4 a5 a6 b1 b2 b3 b4 b5 b6) (hP : a5 = 0 → zPg pg 0 dr ft po st be 0 tr) (ht : ∀ j, 4 ≤ j → j ≤ 6 → bt told j = bt once j) : ∃ m, m < n + 1 - p0 ∧ zIt n m (nI L + 1, a1, a2, a3, a4, told, a5, a6, dr, ft, po, st, be, tr) (nI L + 1, once, b1, b2, b3, b4, b5, b6, pg) := by
  rw [nI_1]
  rcases hT with hg | hb
  · have e0 : a5 = 0 := by
      obtain ⟨p, h', k, v, g1, g2, g3, g4, g5, g6, q7, q8, q9, g10, q11, q12, q13⟩ := hg
      exact q11
    exact ⟨n + 1 - (h + 1), by omega, L + 1, h + 1, _, _, _, _, _, _, _, _, _, _, _, _, _, _, _, _, _, _, _, _, _, rfl, rfl, Or.inl ⟨rfl, by omega, hg, hP e0, ht⟩⟩
  · exact ⟨0, by omega, L + 1, 0, _, _, _, _, _, _, _, _, _, _, _, _, _, _, _, _, _, _, _, _, _, rfl, rfl, Or.inr hb⟩
theorem nm4w {w : Nat} (h : w < 7) : ¬ nI w = (-4 : Int32) := nI_m4 (by omega)
set_option maxHeartbeats 4000000 in
theorem i_set5 {W : Nat} (hW : 4 ≤ W) (hW7 : W < 7) {L p h k : Nat} {num told fp dr ft po st be : Int32} {tr : Nat → Int32} {o5 : Int32 × Int32 × Int32 × Int32 × Int32 × Int32 × Int32 × Int32 × Int32 × Int32 × Int32} {r5 : Int32 × Int32 × Int32 × Int32 × Int32 × Int32} (hk0 : ¬ nI k = (0 : Int32)) (h160 : ¬ (160 : Int32) ≤ nI L) (hw : p_X3_wordOfToken (nI p) (nI k) (nI h) by_ = some (nI W)) (h1 : p_X3_readSetting (nI W) (nI n) (nI p) (nI k) (nI h) num told 0 fp by_ ft po st be = some o5) (h2 : p_X3_readToken (nI n) o5.1 o5.2.1 o5.2.2.1 o5.2.2.2.1 o5.2.2.2.2.2.1 o5.2.2.2.2.2.2.1 by_ = some r5) : p_X3_tellTo_b26 by_ (nI n) (nI L, nI p, nI k, nI h, num, told, 0, fp, dr, ft, po, st, be, tr) = some (.inr (nI L + 1, r5.1, r5.2.1, r5.2.2.1, r5.2.2.2.1, o5.2.2.2.2.1, r5.2.2.2.2.1, r5.2.2.2.2.2, dr, o5.2.2.2.2.2.2.2.1, o5.2.2.2.2.2.2.2.2.1, o5.2.2.2.2.2.2.2.2.2.1, o5.2.2.2.2.2.2.2.2.2.2, tr)) := by
  unfold p_X3_tellTo_b26
  try dsimp only
  rw [if_pos rfl, if_neg hk0, if_neg h160, hw, zbs, if_neg (nm4w hW7), if_pos (show (4 : Int32) ≤ nI W from nI_le (a := 4) hW (by omega)), h1, zbs, zbs]
  try dsimp only
  rw [h2, zbs]
theorem i_line6 {L p h k : Nat} {once ba va : Int32} {pg : Nat → Int32} {o6 : Int32 × Int32 × Int32 × Int32 × Int32 × Int32 × Int32 × (Nat → Int32)} (hk0 : ¬ nI k = (0 : Int32)) (h1 : p_X6_readLine once (nI n) 0 ba (nI p) (nI h) (nI k) va pg tp_ zcuts zletters = some o6) : p_X6_text_b42 (nI n) tp_ zcuts zletters (nI L, once, 0, ba, nI p, nI h, nI k, va, pg) = some (.inr (nI L + 1, o6.1, o6.2.1, o6.2.2.1, o6.2.2.2.1, o6.2.2.2.2.1, o6.2.2.2.2.2.1, o6.2.2.2.2.2.2.1, o6.2.2.2.2.2.2.2)) := by
  unfold p_X6_text_b42
  try dsimp only
  rw [if_pos rfl, if_neg hk0, h1, zbs]
set_option maxHeartbeats 4000000 in
theorem t_lines (hB : zBy n c by_ tp_) : ∀ (m : Nat) x y, zIt n m x y → (∃ r1 r2, p_X3_tellTo_b26 by_ (nI n) x = some (.inl r1) ∧ p_X6_text_b42 (nI n) tp_ zcuts zletters y = some (.inl r2) ∧ zRt r1 r2) ∨ (∃ m' x' y', m' < m ∧ p_X3_tellTo_b26 by_ (nI n) x = some (.inr x') ∧ p_X6_text_b42 (nI n) tp_ zcuts zletters y = some (.inr y') ∧ zIt n m' x' y') := by
  have hn := hB.1
  rintro m x y ⟨L, p0, pl, tok, tp, num, told, fl, fp, dr, ft, po, st, be, tr, once, br, ba, sp, he, tk, va, pg, rfl, rfl, hc | hc⟩
  · obtain ⟨rfl, hL, ⟨p, h, k, v, g1, g2, g3, g4, g5, g6, rfl, rfl, rfl, g10, rfl, rfl, rfl, rfl, rfl, g16⟩, hP, ht⟩ := hc
    by_cases hk : k = 0
    · subst hk
      left
      refine ⟨(nI L, nI p, nI 0, nI h, num, told, (0 : Int32), fp, dr, ft, po, st, be, tr), (nI L, once, (0 : Int32), ba, nI p, nI h, nI 0, va, pg), ?_, ?_, L, _, _, _, _, _, _, _, _, _, _, _, _, _, _, _, _, _, _, _, _, _, rfl, rfl, Or.inl ⟨rfl, rfl, hP⟩⟩
      · unfold p_X3_tellTo_b26
        try dsimp only
        rw [if_pos rfl, if_pos (show nI 0 = (0 : Int32) from rfl)]
      · unfold p_X6_text_b42
        try dsimp only
        rw [if_pos rfl, if_pos (show nI 0 = (0 : Int32) from rfl)]
    · right
      have hhp := g5 hk
      have hk0 : ¬ nI k = (0 : Int32) := nI_ne' (b := 0) hk (by omega) (by decide)
      have h160 : ¬ (160 : Int32) ≤ nI L := nI_ge (b := 160) (by omega) (by decide)
      obtain ⟨W, w5, w6, hW⟩ := w_both hB g2 g3 g4
      rcases hW with rfl | ⟨w, hw, rfl⟩
      · obtain ⟨m', hm', hI⟩ := i_next (n := n) hL g1 (show h < n by omega) (a1 := nI p) (a2 := nI k) (a3 := nI h) (a4 := num) (a5 := 2) (a6 := nI h) (b1 := 2) (b2 := nI h) (b3 := nI p) (b4 := nI h) (b5 := nI k) (b6 := va) (told := told) (dr := dr) (ft := ft) (po := po) (st := st) (be := be) (once := once) (tr := tr) (pg := pg) (Or.inr ⟨2, h, by decide, by decide, rfl, rfl, rfl, rfl⟩) (fun z => absurd z (by decide)) ht
        refine ⟨m', _, _, hm', ?_, ?_, hI⟩
        · unfold p_X3_tellTo_b26
          try dsimp only
          rw [if_pos rfl, if_neg hk0, if_neg h160, w5, zbs, if_pos rfl, fl_0', zbs, zbs]
          try dsimp only
          rw [t_rt0 (by decide), zbs]
        · have hl : p_X6_readLine once (nI n) 0 ba (nI p) (nI h) (nI k) va pg tp_ zcuts zletters = some (once, (2 : Int32), nI h, nI p, nI h, nI k, va, pg) := by
            unfold p_X6_readLine
            rw [w6, zbs, w_inN, zbs, if_pos rfl, fs_0, zbs]
          exact i_line6 hk0 hl
      · by_cases hw4 : w < 4
        · obtain ⟨d, hd5, rfl, -, -⟩ := u_dr hP
          obtain ⟨o5, r5, o6, x1, x2, x3, x4, x5, x6⟩ := l_draw hB (p0 := h + 1) hhp g3 hw4 hd5 hP w6 num fp ba va once
          obtain ⟨m', hm', hI⟩ := i_next (n := n) hL g1 (show h < n by omega) (told := told) (once := o6.1) x4 x5 (fun j h4 h6 => by rw [x6, bt_or once (by omega) (by omega), decide_eq_false (by omega), Bool.or_false]; exact ht j h4 h6)
          refine ⟨m', _, _, hm', ?_, i_line6 hk0 x3, hI⟩
          unfold p_X3_tellTo_b26
          try dsimp only
          rw [if_pos rfl, if_neg hk0, if_neg h160, w5, zbs, if_neg (nm4w hw), if_neg (show ¬ (4 : Int32) ≤ nI w from nI_ge (b := 4) hw4 (by decide)), x1, zbs, zbs]
          try dsimp only
          rw [x2, zbs]
        · rcases (show w = 4 ∨ w = 5 ∨ w = 6 by omega) with rfl | rfl | rfl
          · obtain ⟨o5, r5, o6, x1, x2, x3, x4, x5, x6, x7⟩ := l_set4 hB (p0 := h + 1) hhp g3 hP w6 (ht 4 (by decide) (by decide)) num fp ba va
            obtain ⟨m', hm', hI⟩ := i_next (n := n) hL g1 (show h < n by omega) (told := o5.2.2.2.2.1) (once := o6.1) x4 x5 (fun j h4 h6 => by rw [x6, x7, bt_or once (by omega) (by omega), bt_or told (by omega) (by omega), ht j h4 h6])
            exact ⟨m', _, _, hm', i_set5 (by decide) (by decide) hk0 h160 w5 x1 x2, i_line6 hk0 x3, hI⟩
          · obtain ⟨o5, r5, o6, x1, x2, x3, x4, x5, x6, x7⟩ := l_set5 hB (p0 := h + 1) hhp g3 hP w6 (ht 5 (by decide) (by decide)) num fp ba va
            obtain ⟨m', hm', hI⟩ := i_next (n := n) hL g1 (show h < n by omega) (told := o5.2.2.2.2.1) (once := o6.1) x4 x5 (fun j h4 h6 => by rw [x6, x7, bt_or once (by omega) (by omega), bt_or told (by omega) (by omega), ht j h4 h6])
            exact ⟨m', _, _, hm', i_set5 (by decide) (by decide) hk0 h160 w5 x1 x2, i_line6 hk0 x3, hI⟩
          · obtain ⟨o5, r5, o6, x1, x2, x3, x4, x5, x6, x7⟩ := l_set6 hB (p0 := h + 1) hhp g3 hP w6 (ht 6 (by decide) (by decide)) num fp ba va
            obtain ⟨m', hm', hI⟩ := i_next (n := n) hL g1 (show h < n by omega) (told := o5.2.2.2.2.1) (once := o6.1) x4 x5 (fun j h4 h6 => by rw [x6, x7, bt_or once (by omega) (by omega), bt_or told (by omega) (by omega), ht j h4 h6])
            exact ⟨m', _, _, hm', i_set5 (by decide) (by decide) hk0 h160 w5 x1 x2, i_line6 hk0 x3, hI⟩
  · left
    obtain ⟨b1, b2, b3⟩ := zBd_n hc
    refine ⟨(nI L, pl, tok, tp, num, told, fl, fp, dr, ft, po, st, be, tr), (nI L, once, br, ba, sp, he, tk, va, pg), ?_, ?_, L, _, _, _, _, _, _, _, _, _, _, _, _, _, _, _, _, _, _, _, _, _, rfl, rfl, Or.inr hc⟩
    · unfold p_X3_tellTo_b26
      try dsimp only
      rw [if_neg b1]
    · unfold p_X6_text_b42
      try dsimp only
      rw [if_neg b2]
theorem b_page0 (f : Nat → Int32) : ∃ r, z_lp p_X6_text_b19 1000 ((0 : Int32), f) = some r ∧ ∀ j, j < 26 → r j = 0 := by
  refine z_lp_inv (body := p_X6_text_b19) (R := fun r => ∀ j, j < 26 → r j = 0) 26 (fun k x => x.1 = nI k ∧ ∀ j, j < k → x.2 j = 0) 1000 _ ?_ ?_ ⟨rfl, fun j hj => absurd hj (Nat.not_lt_zero j)⟩ (by decide)
  · rintro k ⟨a, t⟩ hk ⟨e1, e2⟩
    have e1' : a = nI k := e1
    subst e1'
    have e2' : ∀ j, j < k → t j = 0 := e2
    refine ⟨(nI (k + 1), upd t k 0), ?_, rfl, ?_⟩
    · unfold p_X6_text_b19
      try dsimp only
      rw [if_neg (show ¬ (26 : Int32) ≤ nI k from nI_ge (b := 26) hk (by decide)), z_set_n hk (by decide), zbs, nI_1]
    · intro j hj
      try dsimp only
      by_cases q : j = k
      · rw [q, pk_us]
      · rw [pk_un q]; exact e2' j (by omega)
  · rintro ⟨a, t⟩ ⟨e1, e2⟩
    have e1' : a = nI 26 := e1
    subst e1'
    refine ⟨t, ?_, e2⟩
    unfold p_X6_text_b19
    try dsimp only
    rw [if_pos (show (26 : Int32) ≤ nI 26 by decide)]
theorem b_pageC (O : Int32 × Int32 × Int32 × Int32 × Int32 × Int32 × Int32 × Int32 × (Nat → Int32)) {pg : Nat → Int32} (hO : O.2.2.2.2.2.2.2.2 = pg) (f : Nat → Int32) : ∃ r, z_lp (p_X6_text_b96 O) 1000 ((0 : Int32), f) = some r ∧ ∀ j, j < 26 → r j = pg j := by
  refine z_lp_inv (body := p_X6_text_b96 O) (R := fun r => ∀ j, j < 26 → r j = pg j) 26 (fun k x => x.1 = nI k ∧ ∀ j, j < k → x.2 j = pg j) 1000 _ ?_ ?_ ⟨rfl, fun j hj => absurd hj (Nat.not_lt_zero j)⟩ (by decide)
  · rintro k ⟨a, t⟩ hk ⟨e1, e2⟩
    have e1' : a = nI k := e1
    subst e1'
    have e2' : ∀ j, j < k → t j = pg j := e2
    refine ⟨(nI (k + 1), upd t k (pg k)), ?_, rfl, ?_⟩
    · unfold p_X6_text_b96
      try dsimp only
      rw [if_neg (show ¬ (26 : Int32) ≤ nI k from nI_ge (b := 26) hk (by decide)), hO, z_get_n hk (by decide), zbs, z_set_n (by omega) (by decide), zbs, nI_1]
    · intro j hj
      try dsimp only
      by_cases q : j = k
      · rw [q, pk_us]
      · rw [pk_un q]; exact e2' j (by omega)
  · rintro ⟨a, t⟩ ⟨e1, e2⟩
    have e1' : a = nI 26 := e1
    subst e1'
    refine ⟨t, ?_, e2⟩
    unfold p_X6_text_b96
    try dsimp only
    rw [if_pos (show (26 : Int32) ≤ nI 26 by decide)]
theorem zs2_0 {f : Nat → Int32} {v : Int32} : z_set f 2 (0 : Int32) v = some (upd f 0 v) := z_set_e 0 rfl (by decide) (by decide)
theorem zs2_1 {f : Nat → Int32} {v : Int32} : z_set f 2 (1 : Int32) v = some (upd f 1 v) := z_set_e 1 rfl (by decide) (by decide)
theorem a_unkeep (f : Nat → Int32) : z_lp p_X5_text_b77 1000 ((0 : Int32), f) = some (upd (upd f 0 0) 1 0) := by
  have s0 : p_X5_text_b77 ((0 : Int32), f) = some (.inr ((1 : Int32), upd f 0 0)) := by
    unfold p_X5_text_b77
    try dsimp only
    rw [if_neg (show ¬ (2 : Int32) ≤ 0 by decide), vb0, zs2_0, zbs]
    try rfl
  have s1 : p_X5_text_b77 ((1 : Int32), upd f 0 0) = some (.inr ((2 : Int32), upd (upd f 0 0) 1 0)) := by
    unfold p_X5_text_b77
    try dsimp only
    rw [if_neg (show ¬ (2 : Int32) ≤ 1 by decide), vb0, zs2_1, zbs]
    try rfl
  have s2 : p_X5_text_b77 ((2 : Int32), upd (upd f 0 0) 1 0) = some (.inl (upd (upd f 0 0) 1 0)) := by
    unfold p_X5_text_b77
    try dsimp only
    rw [if_pos (show (2 : Int32) ≤ 2 by decide)]
  have q : z_lp p_X5_text_b77 (997 + 1 + 1 + 1) ((0 : Int32), f) = some (upd (upd f 0 0) 1 0) := by
    rw [z_lp_st s0, z_lp_st s1, z_lp_en s2]
  exact q
theorem pg_new {r tr : Nat → Int32} (h : ∀ j, j < 26 → r j = 0) : zPg r 0 0 44 44 2 9 0 tr := by
  refine ⟨(0, fun _ => 0, fun _ => 0, fun _ => 0, fun _ => 0, 44, 2, 9), 44, 0, ⟨⟨by decide, by decide, by decide, by decide, fun i hi => absurd hi (Nat.not_lt_zero i)⟩, by decide, by decide, fun i hi => absurd hi (Nat.not_lt_zero i)⟩, ⟨rfl, rfl, rfl, rfl, rfl, rfl, fun i hi => absurd hi (Nat.not_lt_zero i)⟩, ?_⟩
  refine ⟨?_, ?_, ?_, ?_, ?_, ?_, fun i hi => absurd hi (Nat.not_lt_zero i)⟩
  · rw [h 20 (by decide)]; try rfl
  · rw [h 21 (by decide)]; try rfl
  · rw [h 22 (by decide)]; try rfl
  · rw [h 23 (by decide)]; try rfl
  · rw [h 24 (by decide)]; try rfl
  · rw [h 25 (by decide)]; try rfl
/-- the whole text, on both sides -/
theorem t_tell (hB : zBy n c by_ tp_) (tok tp num ba he tk va : Int32) (tr pg0 : Nat → Int32) : ∃ e5 o9 e14 r5, z_lp p_X6_text_b19 1000 ((0 : Int32), pg0) = some e5 ∧ p_X6_step (nI n) (0 : Int32) ba (0 : Int32) he tk va tp_ = some o9 ∧ z_lp (p_X6_text_b42 (nI n) tp_ zcuts zletters) 1000 ((0 : Int32), (0 : Int32), o9.1, o9.2.1, o9.2.2.1, o9.2.2.2.1, o9.2.2.2.2.1, o9.2.2.2.2.2, e5) = some e14 ∧ p_X3_tellTo (nI n) tok tp num by_ 0 44 44 2 9 tr = some r5 ∧ zRt r5 e14 := by
  have hn := hB.1
  obtain ⟨e5, h1, h2⟩ := b_page0 pg0
  obtain ⟨⟨a1, a2, a3, a4, a5, a6⟩, ⟨b1, b2, b3, b4, b5, b6⟩, s5, s6, sT⟩ := t_step hB (p0 := 0) (pl := 0) (fl := 0) (fp := 0) (br := 0) (ba := ba) (sp := 0) (Or.inl ⟨0, Nat.le_refl _, Nat.zero_le _, rfl, rfl, rfl, rfl⟩) tok tp num he tk va
  have sT' : zTs n 0 a1 a2 a3 a4 a5 a6 b1 b2 b3 b4 b5 b6 := sT
  have hI : ∃ m, m ≤ n + 1 ∧ zIt n m ((0 : Int32), a1, a2, a3, a4, (0 : Int32), a5, a6, (0 : Int32), (44 : Int32), (44 : Int32), (2 : Int32), (9 : Int32), tr) ((0 : Int32), (0 : Int32), b1, b2, b3, b4, b5, b6, e5) := by
    rcases sT' with hg | hb
    · exact ⟨n + 1 - 0, by omega, 0, 0, _, _, _, _, _, _, _, _, _, _, _, _, _, _, _, _, _, _, _, _, _, rfl, rfl, Or.inl ⟨rfl, Nat.le_refl _, hg, pg_new h2, fun _ _ _ => rfl⟩⟩
    · exact ⟨0, by omega, 0, 0, _, _, _, _, _, _, _, _, _, _, _, _, _, _, _, _, _, _, _, _, _, rfl, rfl, Or.inr hb⟩
  obtain ⟨m, hm, hI⟩ := hI
  obtain ⟨r1, r2, k1, k2, k3⟩ := z_lp_bis (b1 := p_X3_tellTo_b26 by_ (nI n)) (b2 := p_X6_text_b42 (nI n) tp_ zcuts zletters) (R := zRt) (zIt n) (t_lines hB) (n + 1) m _ _ 1000 1000 hm hI (by omega) (by omega)
  refine ⟨e5, _, r2, r1, h1, s6, k2, ?_, k3⟩
  unfold p_X3_tellTo
  rw [s5, zbs]
  try dsimp only
  rw [k1, zbs]
  try rfl
end ZTE
