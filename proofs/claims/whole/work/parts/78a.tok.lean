/-! TEXT: tokens, on both sides. n bytes, the i-th of them c i -/
def zBy (n : Nat) (c : Nat → Nat) (by_ tp_ : Nat → Int32) : Prop := n ≤ 160 ∧ ∀ i, i < n → c i < 128 ∧ by_ i = nI (c i) ∧ tp_ i = nI (c i)
theorem zTape_f {ln tn : Int32} {by_ tp_ : Nat → Int32} (h : zTape ln by_ tn tp_) : ∃ (n : Nat) (c : Nat → Nat), ln = nI n ∧ tn = nI n ∧ zBy n c by_ tp_ := by
  obtain ⟨n, hn, h1, h2, h⟩ := h
  refine ⟨n, fun i => (by_ i).toNatClampNeg, h1, h2, hn, fun i hi => ?_⟩
  obtain ⟨c, hc, e1, e2⟩ := h i hi
  try dsimp only
  rw [e1, e2, nI_clamp (by omega)]
  exact ⟨hc, rfl, rfl⟩
/-- the end of a run of Q's from p on -/
theorem zsk_ex (Q : Nat → Bool) : ∀ (r p : Nat), ∃ q, p ≤ q ∧ q ≤ p + r ∧ (∀ i, p ≤ i → i < q → Q i = true) ∧ (q < p + r → Q q = false)
  | 0, p => ⟨p, Nat.le_refl _, Nat.le_refl _, fun i h1 h2 => absurd h2 (by omega), fun h => absurd h (by omega)⟩
  | r + 1, p => by
    cases c : Q p
    · exact ⟨p, Nat.le_refl _, by omega, fun i h1 h2 => absurd h2 (by omega), fun _ => c⟩
    · obtain ⟨q, h1, h2, h3, h4⟩ := zsk_ex Q r (p + 1)
      refine ⟨q, by omega, by omega, fun i a b => ?_, fun a => h4 (by omega)⟩
      by_cases e : i = p
      · rw [e]; exact c
      · exact h3 i (by omega) b
theorem zsk_n (Q : Nat → Bool) {n p : Nat} (hp : p ≤ n) : ∃ q, p ≤ q ∧ q ≤ n ∧ (∀ i, p ≤ i → i < q → Q i = true) ∧ (q < n → Q q = false) := by
  obtain ⟨q, h1, h2, h3, h4⟩ := zsk_ex Q (n - p) p
  exact ⟨q, h1, by omega, h3, fun h => h4 (by omega)⟩
/-- a loop that goes over such a run -/
theorem z_scan {body : Int32 → Option (Int32 ⊕ Int32)} {Q : Nat → Bool} {n p q : Nat} (hn : n ≤ 160) (h1 : p ≤ q) (h2 : q ≤ n) (h3 : ∀ i, p ≤ i → i < q → Q i = true) (h4 : q < n → Q q = false) (hb : ∀ i, i < n → body (nI i) = if Q i = true then some (.inr (nI (i + 1))) else some (.inl (nI i))) (hN : body (nI n) = some (.inl (nI n))) : z_lp body 1000 (nI p) = some (nI q) := by
  have run := z_lp_run (body := body) (r := nI q) (q - p) (fun i => nI (p + i)) 1000 ?_ ?_ (by omega)
  · exact run
  · intro i hi
    try dsimp only
    rw [hb (p + i) (by omega), if_pos (h3 (p + i) (by omega) (by omega))]
    try rfl
  · try dsimp only
    rw [show p + (q - p) = q by omega]
    by_cases e : q = n
    · rw [e]; exact hN
    · rw [hb q (by omega), if_neg (by rw [h4 (by omega)]; decide)]
def zLt (x : Nat) : Bool := decide (97 ≤ x ∧ x ≤ 122)
def zFg (x : Nat) : Bool := decide (48 ≤ x ∧ x ≤ 57)
theorem a_letter : ∀ x, x < 128 → p_X3_isLetter (nI x) = some (zbI (zLt x)) := by decide +kernel
theorem a_figure : ∀ x, x < 128 → p_X3_isFigure (nI x) = some (zbI (zFg x)) := by decide +kernel
theorem b_letter : ∀ x, x < 128 → p_X6_in (nI x).toInt64 (97 : Int64) (122 : Int64) = some (zbI (zLt x)) := by decide +kernel
theorem b_figure : ∀ x, x < 128 → p_X6_in (nI x).toInt64 (48 : Int64) (57 : Int64) = some (zbI (zFg x)) := by decide +kernel
theorem b_letN : p_X6_in (-4 : Int32).toInt64 (97 : Int64) (122 : Int64) = some 0 := by decide +kernel
theorem b_figN : p_X6_in (-4 : Int32).toInt64 (48 : Int64) (57 : Int64) = some 0 := by decide +kernel
section ZTK
variable {n : Nat} {c : Nat → Nat} {by_ tp_ : Nat → Int32}
theorem t_get (hB : zBy n c by_ tp_) {i : Nat} (hi : i < n) : z_get by_ 160 (nI i) = some (nI (c i)) := by
  rw [z_get_n (by have := hB.1; omega) (by decide), (hB.2 i hi).2.1]
theorem t_at (hB : zBy n c by_ tp_) {i : Nat} (hi : i < n) : p_X6_byteAt (nI i) (nI n) tp_ = some (nI (c i)) := by
  have hn := hB.1
  unfold p_X6_byteAt
  rw [if_neg (nI_ge hi (by omega)), z_get_n (by omega) (by decide), zbs, (hB.2 i hi).2.2]
theorem t_atN (hB : zBy n c by_ tp_) : p_X6_byteAt (nI n) (nI n) tp_ = some (-4) := by
  unfold p_X6_byteAt
  rw [if_pos (nI_le (Nat.le_refl _) (by have := hB.1; omega))]
theorem t_sp5 (hB : zBy n c by_ tp_) {p q : Nat} (h1 : p ≤ q) (h2 : q ≤ n) (h3 : ∀ i, p ≤ i → i < q → decide (c i = 32) = true) (h4 : q < n → decide (c q = 32) = false) : z_lp (p_X3_readToken_b8 (nI n) by_) 1000 (nI p) = some (nI q) := by
  have hn := hB.1
  refine z_scan (Q := fun i => decide (c i = 32)) hn h1 h2 h3 h4 (fun i hi => ?_) ?_
  · have hc := (hB.2 i hi).1
    unfold p_X3_readToken_b8
    try dsimp only
    rw [if_neg (nI_ge hi (by omega)), t_get hB hi, zbs, nI_1]
    by_cases e : c i = 32
    · rw [if_pos (show nI (c i) = (32 : Int32) by rw [e]; rfl), if_pos (decide_eq_true e)]
    · rw [if_neg (show ¬ nI (c i) = (32 : Int32) from nI_ne' (b := 32) e (by omega) (by decide)), if_neg (by rw [decide_eq_false e]; decide)]
  · unfold p_X3_readToken_b8
    try dsimp only
    rw [if_pos (nI_le (Nat.le_refl _) (by omega))]
theorem t_sp6 (hB : zBy n c by_ tp_) {p q : Nat} (h1 : p ≤ q) (h2 : q ≤ n) (h3 : ∀ i, p ≤ i → i < q → decide (c i = 32) = true) (h4 : q < n → decide (c q = 32) = false) : z_lp (p_X6_step_b8 (nI n) tp_) 1000 (nI p) = some (nI q) := by
  have hn := hB.1
  refine z_scan (Q := fun i => decide (c i = 32)) hn h1 h2 h3 h4 (fun i hi => ?_) ?_
  · have hc := (hB.2 i hi).1
    unfold p_X6_step_b8
    try dsimp only
    rw [t_at hB hi, zbs, nI_1]
    by_cases e : c i = 32
    · rw [if_pos (show nI (c i) = (32 : Int32) by rw [e]; rfl), if_pos (decide_eq_true e)]
    · rw [if_neg (show ¬ nI (c i) = (32 : Int32) from nI_ne' (b := 32) e (by omega) (by decide)), if_neg (by rw [decide_eq_false e]; decide)]
  · unfold p_X6_step_b8
    try dsimp only
    rw [t_atN hB, zbs, if_neg (by decide)]
theorem t_nm5 (hB : zBy n c by_ tp_) {p q : Nat} (h1 : p ≤ q) (h2 : q ≤ n) (h3 : ∀ i, p ≤ i → i < q → zLt (c i) = true) (h4 : q < n → zLt (c q) = false) : z_lp (p_X3_readName_b5 (nI n) by_) 1000 (nI p) = some (nI q) := by
  have hn := hB.1
  refine z_scan (Q := fun i => zLt (c i)) hn h1 h2 h3 h4 (fun i hi => ?_) ?_
  · have hc := (hB.2 i hi).1
    unfold p_X3_readName_b5
    try dsimp only
    rw [if_neg (nI_ge hi (by omega)), t_get hB hi, zbs, a_letter _ hc, zbs, nI_1]
    cases zLt (c i)
    · rw [zbI_f, if_pos rfl, if_neg (by decide)]
    · rw [zbI_t, if_neg z1n0, if_pos rfl]
  · unfold p_X3_readName_b5
    try dsimp only
    rw [if_pos (nI_le (Nat.le_refl _) (by omega))]
theorem t_nm6 (hB : zBy n c by_ tp_) {p q : Nat} (h1 : p ≤ q) (h2 : q ≤ n) (h3 : ∀ i, p ≤ i → i < q → zLt (c i) = true) (h4 : q < n → zLt (c q) = false) : z_lp (p_X6_step_b84 (nI n) tp_) 1000 (nI p) = some (nI q) := by
  have hn := hB.1
  refine z_scan (Q := fun i => zLt (c i)) hn h1 h2 h3 h4 (fun i hi => ?_) ?_
  · have hc := (hB.2 i hi).1
    unfold p_X6_step_b84
    try dsimp only
    rw [t_at hB hi, zbs, b_letter _ hc, zbs, nI_1]
    cases zLt (c i)
    · rw [zbI_f, if_pos rfl, if_neg (by decide)]
    · rw [zbI_t, if_neg z1n0, if_pos rfl]
  · unfold p_X6_step_b84
    try dsimp only
    rw [t_atN hB, zbs, b_letN, zbs, if_pos rfl]
def zv5 (c : Nat → Nat) (h : Nat) : Nat → Int32
  | 0 => 0
  | k + 1 => (((10 : Int32) * zv5 c h k) + nI (c (h + k))) - (48 : Int32)
def zv6 (c : Nat → Nat) (h : Nat) : Nat → Int32
  | 0 => 0
  | k + 1 => if k < 2 then (((10 : Int32) * zv6 c h k) + nI (c (h + k))) - (48 : Int32) else zv6 c h k
theorem t_nu5 (hB : zBy n c by_ tp_) {p q : Nat} (h1 : p ≤ q) (h2 : q ≤ n) (h3 : ∀ i, p ≤ i → i < q → zFg (c i) = true) (h4 : q < n → zFg (c q) = false) : z_lp (p_X3_readNumber_b10 (nI n) by_) 1000 (nI p, (0 : Int32)) = some (nI q, zv5 c p (q - p)) := by
  have hn := hB.1
  have run := z_lp_run (body := p_X3_readNumber_b10 (nI n) by_) (r := (nI q, zv5 c p (q - p))) (q - p) (fun i => (nI (p + i), zv5 c p i)) 1000 ?_ ?_ (by omega)
  · exact run
  · intro i hi
    have hc := (hB.2 (p + i) (by omega)).1
    try dsimp only
    unfold p_X3_readNumber_b10
    try dsimp only
    rw [if_neg (nI_ge (by omega) (by omega)), t_get hB (by omega), zbs, a_figure _ hc, zbs, h3 (p + i) (by omega) (by omega), zbI_t, if_neg z1n0, zbs, nI_1]
    try rfl
  · try dsimp only
    rw [show p + (q - p) = q by omega]
    unfold p_X3_readNumber_b10
    try dsimp only
    by_cases e : q = n
    · rw [if_pos (nI_le (by omega) (by omega))]
    · have hc := (hB.2 q (by omega)).1
      rw [if_neg (nI_ge (by omega) (by omega)), t_get hB (by omega), zbs, a_figure _ hc, zbs, h4 (by omega), zbI_f, if_pos rfl]
theorem t_nu6 (hB : zBy n c by_ tp_) {p q : Nat} (h1 : p ≤ q) (h2 : q ≤ n) (h3 : ∀ i, p ≤ i → i < q → zFg (c i) = true) (h4 : q < n → zFg (c q) = false) : z_lp (p_X6_step_b140 (nI n) tp_ (nI p)) 1000 (nI p, (0 : Int32)) = some (nI q, zv6 c p (q - p)) := by
  have hn := hB.1
  have run := z_lp_run (body := p_X6_step_b140 (nI n) tp_ (nI p)) (r := (nI q, zv6 c p (q - p))) (q - p) (fun i => (nI (p + i), zv6 c p i)) 1000 ?_ ?_ (by omega)
  · exact run
  · intro i hi
    have hc := (hB.2 (p + i) (by omega)).1
    try dsimp only
    unfold p_X6_step_b140
    try dsimp only
    rw [t_at hB (by omega), zbs, b_figure _ hc, zbs, h3 (p + i) (by omega) (by omega), zbI_t, if_neg z1n0, zbs, nI_1, pk_sub (by omega), show p + i - p = i by omega, zv6]
    by_cases e : i < 2
    · rw [if_neg (show ¬ (2 : Int32) ≤ nI i from nI_ge (b := 2) e (by decide)), if_pos e]
      try rfl
    · rw [if_pos (show (2 : Int32) ≤ nI i from nI_le (a := 2) (by omega) (by omega)), if_neg e]
      try rfl
  · try dsimp only
    rw [show p + (q - p) = q by omega]
    unfold p_X6_step_b140
    try dsimp only
    by_cases e : q = n
    · rw [e, t_atN hB, zbs, b_figN, zbs, if_pos rfl]
    · have hc := (hB.2 q (by omega)).1
      rw [t_at hB (by omega), zbs, b_figure _ hc, zbs, h4 (by omega), zbI_f, if_pos rfl]
theorem zv_1 : ∀ x, x < 128 → zFg x = true → (((10 : Int32) * 0) + nI x) - (48 : Int32) = nI (x - 48) ∧ x - 48 ≤ 9 := by decide +kernel
theorem zv_2 : ∀ a, a ≤ 9 → ∀ x, x < 128 → zFg x = true → (((10 : Int32) * nI a) + nI x) - (48 : Int32) = nI (10 * a + (x - 48)) ∧ x - 48 ≤ 9 := by decide +kernel
theorem zv_ok {h k : Nat} (h1 : 1 ≤ k) (h2 : k ≤ 2) (hc : ∀ i, i < k → c (h + i) < 128 ∧ zFg (c (h + i)) = true) : ∃ v, v ≤ 99 ∧ zv5 c h k = nI v ∧ zv6 c h k = nI v := by
  obtain ⟨c0, f0⟩ := hc 0 (by omega)
  obtain ⟨e0, l0⟩ := zv_1 _ c0 f0
  have a5 : zv5 c h 1 = nI (c (h + 0) - 48) := e0
  have a6 : zv6 c h 1 = nI (c (h + 0) - 48) := e0
  by_cases e : k = 1
  · subst e
    exact ⟨_, by omega, a5, a6⟩
  · have e2 : k = 2 := by omega
    subst e2
    obtain ⟨c1, f1⟩ := hc 1 (by omega)
    obtain ⟨e1, l1⟩ := zv_2 _ l0 _ c1 f1
    refine ⟨10 * (c (h + 0) - 48) + (c (h + 1) - 48), by omega, ?_, ?_⟩
    · rw [zv5, a5]; exact e1
    · rw [zv6, a6, if_pos (by decide)]; exact e1
/-! the two sides' states: good, or bad alike -/
def zGd (n p0 : Nat) (pl tok tp num fl br sp he tk va : Int32) : Prop := ∃ p h k v : Nat, p0 ≤ h ∧ h ≤ p ∧ p ≤ n ∧ k ≤ 3 ∧ (¬ k = 0 → h < p) ∧ v ≤ 99 ∧ pl = nI p ∧ tok = nI k ∧ tp = nI h ∧ (k = 2 → num = nI v) ∧ fl = 0 ∧ br = 0 ∧ sp = nI p ∧ he = nI h ∧ tk = nI k ∧ (k = 2 → va = nI v)
def zBd (fl fp br ba : Int32) : Prop := ∃ b h : Nat, 1 ≤ b ∧ b ≤ 5 ∧ fl = nI b ∧ fp = nI h ∧ br = nI b ∧ ba = nI h
def zTs (n p0 : Nat) (pl tok tp num fl fp br ba sp he tk va : Int32) : Prop := zGd n p0 pl tok tp num fl br sp he tk va ∨ zBd fl fp br ba
def zUs (n p0 : Nat) (pl fl fp br ba sp : Int32) : Prop := (∃ p, p0 ≤ p ∧ p ≤ n ∧ pl = nI p ∧ fl = 0 ∧ br = 0 ∧ sp = nI p) ∨ zBd fl fp br ba
theorem t_rt0 {len pl tok tp num fl fp : Int32} {by_ : Nat → Int32} (h : ¬ fl = 0) : p_X3_readToken len pl tok tp num fl fp by_ = some (pl, tok, tp, num, fl, fp) := by
  unfold p_X3_readToken; rw [if_neg h]
theorem t_st0 {len br ba sp he tk va : Int32} {t : Nat → Int32} (h : ¬ br ≤ 0) : p_X6_step len br ba sp he tk va t = some (br, ba, sp, he, tk, va) := by
  unfold p_X6_step; rw [if_neg h]
theorem zBd_n {fl fp br ba : Int32} (h : zBd fl fp br ba) : ¬ fl = 0 ∧ ¬ br = 0 ∧ ¬ br ≤ 0 := by
  obtain ⟨b, h', b1, b2, e1, e2, e3, e4⟩ := h
  rw [e1, e3]
  exact ⟨nI_ne0 (by omega) (by omega), nI_ne0 (by omega) (by omega), nI_nle (by omega) (by omega)⟩
set_option maxHeartbeats 1000000 in
/-- a token read, on both sides -/
theorem t_step (hB : zBy n c by_ tp_) {p0 : Nat} {pl fl fp br ba sp : Int32} (hU : zUs n p0 pl fl fp br ba sp) (tok tp num he tk va : Int32) : ∃ o5 o6, p_X3_readToken (nI n) pl tok tp num fl fp by_ = some o5 ∧ p_X6_step (nI n) br ba sp he tk va tp_ = some o6 ∧ zTs n p0 o5.1 o5.2.1 o5.2.2.1 o5.2.2.2.1 o5.2.2.2.2.1 o5.2.2.2.2.2 o6.1 o6.2.1 o6.2.2.1 o6.2.2.2.1 o6.2.2.2.2.1 o6.2.2.2.2.2 := by
  have hn := hB.1
  rcases hU with ⟨p, hp0, hpn, rfl, rfl, rfl, rfl⟩ | hb
  · obtain ⟨q, q1, q2, q3, q4⟩ := zsk_n (fun i => decide (c i = 32)) hpn
    have s5 := t_sp5 hB q1 q2 q3 q4
    have s6 := t_sp6 hB q1 q2 q3 q4
    by_cases e : q = n
    · refine ⟨(nI q, (0 : Int32), nI q, num, (0 : Int32), fp), ((0 : Int32), ba, nI q, nI q, (0 : Int32), (0 : Int32)), ?_, ?_, Or.inl ⟨q, q, 0, 0, by omega, Nat.le_refl _, q2, by decide, fun z => absurd rfl z, by decide, rfl, rfl, rfl, fun z => absurd z (by decide), rfl, rfl, rfl, rfl, rfl, fun z => absurd z (by decide)⟩⟩
      · unfold p_X3_readToken
        rw [if_pos rfl, s5, zbs, if_neg (nI_nlt (by omega) (by omega))]
      · unfold p_X6_step
        rw [if_pos (show (0 : Int32) ≤ 0 by decide), s6, zbs, e, t_atN hB, zbs, if_pos rfl]
    · have hq : q < n := by omega
      have hcq := (hB.2 q hq).1
      have l1 : nI q < nI n := nI_lt hq (by omega)
      have nm4 : ¬ nI (c q) = (-4 : Int32) := nI_m4 (by omega)
      cases hl : zLt (c q)
      · cases hf : zFg (c q)
        · by_cases h59 : c q = 59
          · refine ⟨(nI (q + 1), (3 : Int32), nI q, num, (0 : Int32), fp), ((0 : Int32), ba, nI (q + 1), nI q, (3 : Int32), (0 : Int32)), ?_, ?_, Or.inl ⟨q + 1, q, 3, 0, by omega, by omega, by omega, by decide, fun _ => by omega, by decide, rfl, rfl, rfl, fun z => absurd z (by decide), rfl, rfl, rfl, rfl, rfl, fun z => absurd z (by decide)⟩⟩
            · unfold p_X3_readToken
              rw [if_pos rfl, s5, zbs, if_pos l1, t_get hB hq, zbs, a_letter _ hcq, zbs, hl, zbI_f, if_pos rfl, zbs, a_figure _ hcq, zbs, hf, zbI_f, if_pos rfl, zbs, if_pos (show nI (c q) = (59 : Int32) by rw [h59]; rfl), nI_1]
            · unfold p_X6_step
              rw [if_pos (show (0 : Int32) ≤ 0 by decide), s6, zbs, t_at hB hq, zbs, if_neg nm4, b_letter _ hcq, zbs, hl, zbI_f, if_pos rfl, b_figure _ hcq, zbs, hf, zbI_f, if_pos rfl, if_pos (show nI (c q) = (59 : Int32) by rw [h59]; rfl), nI_1]
          · have n59 : ¬ nI (c q) = (59 : Int32) := nI_ne' (b := 59) h59 (by omega) (by decide)
            refine ⟨(nI q, tok, nI q, num, (1 : Int32), nI q), ((1 : Int32), nI q, nI (q + 1), nI q, (3 : Int32), (0 : Int32)), ?_, ?_, Or.inr ⟨1, q, by decide, by decide, rfl, rfl, rfl, rfl⟩⟩
            · unfold p_X3_readToken p_X3_fail
              rw [if_pos rfl, s5, zbs, if_pos l1, t_get hB hq, zbs, a_letter _ hcq, zbs, hl, zbI_f, if_pos rfl, zbs, a_figure _ hcq, zbs, hf, zbI_f, if_pos rfl, zbs, if_neg n59, if_pos rfl]
              try rfl
            · unfold p_X6_step p_X6_fails
              rw [if_pos (show (0 : Int32) ≤ 0 by decide), s6, zbs, t_at hB hq, zbs, if_neg nm4, b_letter _ hcq, zbs, hl, zbI_f, if_pos rfl, b_figure _ hcq, zbs, hf, zbI_f, if_pos rfl, if_neg n59, if_pos rfl, zbs, nI_1]
        · obtain ⟨r, r1, r2, r3, r4⟩ := zsk_n (fun i => zFg (c i)) (show q ≤ n by omega)
          have u5 := t_nu5 hB r1 r2 r3 r4
          have u6 := t_nu6 hB r1 r2 r3 r4
          have hqr : q < r := by
            by_cases z : q = r
            · have := r4 (by omega)
              rw [← z] at this
              have this' : zFg (c q) = false := this
              rw [hf] at this'; exact absurd this' (by decide)
            · omega
          by_cases hlen : r - q ≤ 2
          · obtain ⟨v, hv, v5, v6⟩ := zv_ok (c := c) (h := q) (k := r - q) (by omega) hlen (fun i hi => ⟨(hB.2 (q + i) (by omega)).1, r3 (q + i) (by omega) (by omega)⟩)
            have le2 : nI r - nI q ≤ (2 : Int32) := by rw [pk_sub (by omega)]; exact nI_le (b := 2) hlen (by decide)
            refine ⟨(nI r, (2 : Int32), nI q, nI v, (0 : Int32), fp), ((0 : Int32), ba, nI r, nI q, (2 : Int32), nI v), ?_, ?_, Or.inl ⟨r, q, 2, v, by omega, by omega, r2, by decide, fun _ => hqr, hv, rfl, rfl, rfl, fun _ => rfl, rfl, rfl, rfl, rfl, rfl, fun _ => rfl⟩⟩
            · unfold p_X3_readToken p_X3_readNumber
              rw [if_pos rfl, s5, zbs, if_pos l1, t_get hB hq, zbs, a_letter _ hcq, zbs, hl, zbI_f, if_pos rfl, zbs, a_figure _ hcq, zbs, hf, zbI_t, if_neg z1n0, u5, zbs]
              try dsimp only
              rw [if_pos le2, v5]
              try rfl
            · unfold p_X6_step
              rw [if_pos (show (0 : Int32) ≤ 0 by decide), s6, zbs, t_at hB hq, zbs, if_neg nm4, b_letter _ hcq, zbs, hl, zbI_f, if_pos rfl, b_figure _ hcq, zbs, hf, zbI_t, if_neg z1n0, u6, zbs]
              try dsimp only
              rw [if_pos le2, v6]
          · have nle2 : ¬ nI r - nI q ≤ (2 : Int32) := by rw [pk_sub (by omega)]; exact nI_nle' (b := 2) hlen (by omega)
            refine ⟨(nI r, (2 : Int32), nI q, zv5 c q (r - q), (1 : Int32), nI q), ((1 : Int32), nI q, nI r, nI q, (2 : Int32), zv6 c q (r - q)), ?_, ?_, Or.inr ⟨1, q, by decide, by decide, rfl, rfl, rfl, rfl⟩⟩
            · unfold p_X3_readToken p_X3_readNumber p_X3_fail
              rw [if_pos rfl, s5, zbs, if_pos l1, t_get hB hq, zbs, a_letter _ hcq, zbs, hl, zbI_f, if_pos rfl, zbs, a_figure _ hcq, zbs, hf, zbI_t, if_neg z1n0, u5, zbs]
              try dsimp only
              rw [if_neg nle2, if_pos rfl]
              try rfl
            · unfold p_X6_step p_X6_fails
              rw [if_pos (show (0 : Int32) ≤ 0 by decide), s6, zbs, t_at hB hq, zbs, if_neg nm4, b_letter _ hcq, zbs, hl, zbI_f, if_pos rfl, b_figure _ hcq, zbs, hf, zbI_t, if_neg z1n0, u6, zbs]
              try dsimp only
              rw [if_neg nle2, if_pos rfl]
              try rfl
      · obtain ⟨r, r1, r2, r3, r4⟩ := zsk_n (fun i => zLt (c i)) (show q ≤ n by omega)
        have u5 := t_nm5 hB r1 r2 r3 r4
        have u6 := t_nm6 hB r1 r2 r3 r4
        have hqr : q < r := by
          by_cases z : q = r
          · have := r4 (by omega)
            rw [← z] at this
            have this' : zLt (c q) = false := this
            rw [hl] at this'; exact absurd this' (by decide)
          · omega
        refine ⟨(nI r, (1 : Int32), nI q, num, (0 : Int32), fp), ((0 : Int32), ba, nI r, nI q, (1 : Int32), (0 : Int32)), ?_, ?_, Or.inl ⟨r, q, 1, 0, by omega, by omega, r2, by decide, fun _ => hqr, by decide, rfl, rfl, rfl, fun z => absurd z (by decide), rfl, rfl, rfl, rfl, rfl, fun z => absurd z (by decide)⟩⟩
        · unfold p_X3_readToken p_X3_readName
          rw [if_pos rfl, s5, zbs, if_pos l1, t_get hB hq, zbs, a_letter _ hcq, zbs, hl, zbI_t, if_neg z1n0, u5, zbs]
          try rfl
        · unfold p_X6_step
          rw [if_pos (show (0 : Int32) ≤ 0 by decide), s6, zbs, t_at hB hq, zbs, if_neg nm4, b_letter _ hcq, zbs, hl, zbI_t, if_neg z1n0, u6, zbs]
  · obtain ⟨b1, b2, b3⟩ := zBd_n hb
    exact ⟨_, _, t_rt0 b1, t_st0 b3, Or.inr hb⟩
end ZTK
