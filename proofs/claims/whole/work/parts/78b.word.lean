/-! TEXT: words, on both sides -/
def zLW : List (List Nat) := [[99, 104, 105, 109, 110, 101, 121], [109, 97, 114, 107, 101, 116], [99, 104, 97, 112, 101, 108], [100, 111, 99, 107], [102, 111, 111, 116], [115, 116, 105, 102, 102], [98, 101, 97, 114, 115]]
def zlw (w i : Nat) : Nat := (zLW.getD w []).getD i 0
def zle (w : Nat) : Nat := (zLW.getD w []).length
theorem w_len : ∀ w, w < 7 → p_J0_length_8abf5 w = some (nI (zle w)) ∧ zle w ≤ 7 := by decide +kernel
theorem w_chr : ∀ w, w < 7 → ∀ i, i < zle w → p_J0_charAt_5068e w (nI i) = some (nI (zlw w i)) ∧ zlw w i < 128 := by decide +kernel
theorem w_spl : ∀ w, w < 7 → p_X3_spelling (nI w) = some w := by decide +kernel
theorem w_cut : ∀ w, w < 7 → ∃ a, a < 100 ∧ z_get zcuts 8 (nI w) = some (nI a) ∧ z_get zcuts 8 (nI (w + 1)) = some (nI (a + zle w)) ∧ ∀ i, i < zle w → z_get zletters 37 (nI a + nI i) = some (nI (zlw w i)) := by
  intro w hw
  rcases (show w = 0 ∨ w = 1 ∨ w = 2 ∨ w = 3 ∨ w = 4 ∨ w = 5 ∨ w = 6 by omega) with rfl | rfl | rfl | rfl | rfl | rfl | rfl
  · exact ⟨0, by decide, by decide +kernel, by decide +kernel, by decide +kernel⟩
  · exact ⟨7, by decide, by decide +kernel, by decide +kernel, by decide +kernel⟩
  · exact ⟨13, by decide, by decide +kernel, by decide +kernel, by decide +kernel⟩
  · exact ⟨19, by decide, by decide +kernel, by decide +kernel, by decide +kernel⟩
  · exact ⟨23, by decide, by decide +kernel, by decide +kernel, by decide +kernel⟩
  · exact ⟨27, by decide, by decide +kernel, by decide +kernel, by decide +kernel⟩
  · exact ⟨32, by decide, by decide +kernel, by decide +kernel, by decide +kernel⟩
/-- are the first k letters of the token those of the word w -/
def zal (c : Nat → Nat) (h w : Nat) : Nat → Bool
  | 0 => true
  | k + 1 => zal c h w k && decide (c (h + k) = zlw w k)
theorem zal_iff (c : Nat → Nat) (h w : Nat) : ∀ k, zal c h w k = true ↔ ∀ i, i < k → c (h + i) = zlw w i
  | 0 => ⟨fun _ i hi => absurd hi (Nat.not_lt_zero i), fun _ => rfl⟩
  | k + 1 => by
    rw [zal, Bool.and_eq_true, zal_iff c h w k, decide_eq_true_iff]
    constructor
    · rintro ⟨h1, h2⟩ i hi
      by_cases e : i = k
      · rw [e]; exact h2
      · exact h1 i (by omega)
    · intro h1
      exact ⟨fun i hi => h1 i (by omega), h1 k (by omega)⟩
/-- does the token at h .. p say the word w -/
def zsy (c : Nat → Nat) (h p w : Nat) : Bool := decide (p - h = zle w) && zal c h w (zle w)
section ZWD
variable {n : Nat} {c : Nat → Nat} {by_ tp_ : Nat → Int32}
theorem w_says (hB : zBy n c by_ tp_) {h p w : Nat} (hhp : h ≤ p) (hpn : p ≤ n) (hw : w < 7) : p_X3_tokenSays w (nI p) (nI h) by_ = some (zbI (zsy c h p w)) := by
  have hn := hB.1
  obtain ⟨e1, e2⟩ := w_len w hw
  unfold p_X3_tokenSays zsy
  rw [e1, zbs, pk_sub hhp]
  by_cases q : p - h = zle w
  · rw [if_pos (show nI (p - h) = nI (zle w) by rw [q]), decide_eq_true q, Bool.true_and]
    have key := z_lp_first (body := p_X3_tokenSays_b20 w by_ (nI h)) (fun i => decide (¬ c (h + i) = zlw w i)) (zle w) (fun i x => x = nI i) (fun _ r => r = 0) (fun _ => True) 1000 (0 : Int32)
      (fun i x hi hx hP => by
        have hP' := Decidable.not_not.mp (of_decide_eq_false hP)
        obtain ⟨q1, q2⟩ := w_chr w hw i hi
        refine ⟨nI (i + 1), ?_, rfl⟩
        unfold p_X3_tokenSays_b20
        rw [e1, zbs, hx, if_neg (nI_ge hi (by omega)), nI_add, t_get hB (by omega), zbs, q1, zbs, if_pos (by rw [hP']), nI_1])
      (fun i x hi hx hP => by
        have hP' := of_decide_eq_true hP
        have hc := (hB.2 (h + i) (by omega)).1
        obtain ⟨q1, q2⟩ := w_chr w hw i hi
        refine ⟨0, ?_, rfl⟩
        unfold p_X3_tokenSays_b20
        rw [e1, zbs, hx, if_neg (nI_ge hi (by omega)), nI_add, t_get hB (by omega), zbs, q1, zbs, if_neg (nI_ne' hP' (by omega) (by omega))])
      (fun x hx => by
        refine ⟨(), ?_, trivial⟩
        unfold p_X3_tokenSays_b20
        rw [e1, zbs, hx, if_pos (nI_le (Nat.le_refl _) (by omega))])
      rfl (by omega)
    rcases key with ⟨g, r, h1, h2⟩ | ⟨g, r, h1, -⟩
    · rw [h1, zbs, zel, h2]
      have : zal c h w (zle w) = false := by
        cases z : zal c h w (zle w)
        · rfl
        · have y := of_decide_eq_true (fa_first_yes (fun i => decide (¬ c (h + i) = zlw w i)) (zle w) g)
          exact absurd ((zal_iff c h w (zle w)).mp z _ g) y
      rw [this]; try rfl
    · rw [h1, zbs, zer]
      have : zal c h w (zle w) = true := (zal_iff c h w (zle w)).mpr (fun i hi => Decidable.not_not.mp (of_decide_eq_false (fa_first_all.mp g i hi)))
      rw [this]; try rfl
  · rw [if_neg (nI_ne' q (by omega) (by omega)), decide_eq_false q, Bool.false_and]
    try rfl
theorem w_word (hB : zBy n c by_ tp_) {h p : Nat} (hhp : h ≤ p) (hpn : p ≤ n) : p_X3_wordOfToken (nI p) (1 : Int32) (nI h) by_ = some (zrs (fa_first (zsy c h p) 7) 7) := by
  have key := z_lp_first (body := p_X3_wordOfToken_b13 (nI p) (nI h) by_) (zsy c h p) 7 (fun i x => x = nI i) (fun i r => r = nI i) (fun _ => True) 1000 (0 : Int32)
    (fun i x hi hx hP => by
      refine ⟨nI (i + 1), ?_, rfl⟩
      unfold p_X3_wordOfToken_b13
      rw [hx, if_neg (show ¬ (7 : Int32) ≤ nI i from nI_ge (b := 7) hi (by decide)), w_spl i hi, zbs, if_pos hi, w_says hB hhp hpn hi, zbs, hP, zbI_f, if_pos rfl, nI_1])
    (fun i x hi hx hP => by
      refine ⟨nI i, ?_, rfl⟩
      unfold p_X3_wordOfToken_b13
      rw [hx, if_neg (show ¬ (7 : Int32) ≤ nI i from nI_ge (b := 7) hi (by decide)), w_spl i hi, zbs, if_pos hi, w_says hB hhp hpn hi, zbs, hP, zbI_t, if_neg z1n0])
    (fun x hx => by
      refine ⟨(), ?_, trivial⟩
      unfold p_X3_wordOfToken_b13
      rw [hx, if_pos (show (7 : Int32) ≤ nI 7 by decide)])
    rfl (by decide)
  unfold p_X3_wordOfToken
  rw [if_pos rfl]
  rcases key with ⟨g, r, h1, h2⟩ | ⟨g, r, h1, -⟩
  · rw [h1, zbs, zel, h2, zrs_lt g]
  · rw [h1, zbs, zer, zrs_ge g]
theorem w_in6 (hB : zBy n c by_ tp_) {h p w a : Nat} (hhp : h ≤ p) (hpn : p ≤ n) (hw : w < 7) (q : p - h = zle w) (ha : z_get zcuts 8 (nI w) = some (nI a)) (hl : ∀ i, i < zle w → z_get zletters 37 (nI a + nI i) = some (nI (zlw w i))) : ∀ r k, k + r = zle w → z_lp (p_X6_nameHere_b51 (nI p) (nI h) (nI n) tp_ zcuts (nI w) zletters) (r + 2) (zbI (zal c h w k), nI k) = some (zbI (zal c h w (zle w)))
  | 0, k, hk => by
    have e : k = zle w := by omega
    subst e
    have hn := hB.1
    have e2 := (w_len w hw).2
    refine z_lp_en ?_
    unfold p_X6_nameHere_b51
    try dsimp only
    rw [pk_sub hhp, q]
    by_cases z : zbI (zal c h w (zle w)) = 0
    · rw [if_pos z]
    · rw [if_neg z, if_pos (nI_le (Nat.le_refl _) (by omega))]
  | r + 1, k, hk => by
    have hn := hB.1
    have e2 := (w_len w hw).2
    cases z : zal c h w k
    · refine Eq.trans (z_lp_en (r := zbI false) ?_) ?_
      · unfold p_X6_nameHere_b51
        try dsimp only
        rw [if_pos (show zbI false = (0 : Int32) from rfl)]
      · have : zal c h w (zle w) = false := by
          cases y : zal c h w (zle w)
          · rfl
          · have t := (zal_iff c h w k).mpr (fun i hi => (zal_iff c h w (zle w)).mp y i (by omega))
            rw [z] at t; exact absurd t (by decide)
        rw [this]
    · have hc := (hB.2 (h + k) (by omega)).1
      have hw2 := (w_chr w hw k (by omega)).2
      have st : p_X6_nameHere_b51 (nI p) (nI h) (nI n) tp_ zcuts (nI w) zletters (zbI true, nI k) = some (.inr (zbI (zal c h w (k + 1)), nI (k + 1))) := by
        unfold p_X6_nameHere_b51
        try dsimp only
        rw [if_neg (show ¬ zbI true = (0 : Int32) from z1n0), pk_sub hhp, q, if_neg (nI_ge (by omega) (by omega)), nI_add, t_at hB (by omega), zbs, ha, zbs, hl k (by omega), zbs, nI_1, zal, z, Bool.true_and]
        by_cases y : c (h + k) = zlw w k
        · rw [if_pos (by rw [y]), decide_eq_true y]; try rfl
        · rw [if_neg (nI_ne' y (by omega) (by omega)), decide_eq_false y]; try rfl
      rw [z_lp_st st]
      exact w_in6 hB hhp hpn hw q ha hl r (k + 1) (by omega)
theorem w_says6 (hB : zBy n c by_ tp_) {h p w a : Nat} (hhp : h ≤ p) (hpn : p ≤ n) (hw : w < 7) (ha : z_get zcuts 8 (nI w) = some (nI a)) (hl : ∀ i, i < zle w → z_get zletters 37 (nI a + nI i) = some (nI (zlw w i))) : z_lp (p_X6_nameHere_b51 (nI p) (nI h) (nI n) tp_ zcuts (nI w) zletters) 1000 (zbI (decide (p - h = zle w)), (0 : Int32)) = some (zbI (zsy c h p w)) := by
  have e2 := (w_len w hw).2
  unfold zsy
  by_cases q : p - h = zle w
  · rw [decide_eq_true q, Bool.true_and]
    have := w_in6 hB hhp hpn hw q ha hl (zle w) 0 (by omega)
    exact z_lp_mono _ 1000 _ this (by omega)
  · rw [decide_eq_false q, Bool.false_and]
    refine z_lp_en (n := 999) ?_
    unfold p_X6_nameHere_b51
    try dsimp only
    rw [if_pos (show zbI false = (0 : Int32) from rfl)]
theorem w_name (hB : zBy n c by_ tp_) {h p : Nat} (hhp : h ≤ p) (hpn : p ≤ n) : p_X6_nameHere (nI n) (nI p) (nI h) (1 : Int32) tp_ zcuts zletters = some (zrs (fa_first (zsy c h p) 7) 7) := by
  have hn := hB.1
  have bd : ∀ i, i < 7 → p_X6_nameHere_b2 (1 : Int32) zcuts (nI p) (nI h) (nI n) tp_ zletters (nI i) = (if zbI (zsy c h p i) = 0 then some (.inr (nI (i + 1))) else some (.inl (.inl (nI i)))) := by
    intro i hi
    obtain ⟨a, a0, a1, a2, a3⟩ := w_cut i hi
    have e2 := (w_len i hi).2
    have w1 := w_says6 hB hhp hpn hi a1 a3
    have hdec : (if nI p - nI h = nI (a + zle i) - nI a then (1 : Int32) else (0 : Int32)) = zbI (decide (p - h = zle i)) := by
      rw [pk_sub hhp, pk_sub (by omega), show a + zle i - a = zle i by omega]
      by_cases q : p - h = zle i
      · rw [if_pos (by rw [q]), decide_eq_true q]; try rfl
      · rw [if_neg (nI_ne' q (by omega) (by omega)), decide_eq_false q]; try rfl
    unfold p_X6_nameHere_b2
    rw [if_neg (show ¬ (7 : Int32) ≤ nI i from nI_ge (b := 7) hi (by decide)), if_pos rfl, nI_1, a2, zbs, a1, zbs, hdec, w1, zbs]
  have key := z_lp_first (body := p_X6_nameHere_b2 (1 : Int32) zcuts (nI p) (nI h) (nI n) tp_ zletters) (zsy c h p) 7 (fun i x => x = nI i) (fun i r => r = nI i) (fun _ => True) 1000 (0 : Int32)
    (fun i x hi hx hP => ⟨nI (i + 1), by rw [hx, bd i hi, hP, zbI_f, if_pos rfl], rfl⟩)
    (fun i x hi hx hP => ⟨nI i, by rw [hx, bd i hi, hP, zbI_t, if_neg z1n0], rfl⟩)
    (fun x hx => by
      refine ⟨(), ?_, trivial⟩
      unfold p_X6_nameHere_b2
      rw [hx, if_pos (show (7 : Int32) ≤ nI 7 by decide)])
    rfl (by decide)
  unfold p_X6_nameHere
  rcases key with ⟨g, r, h1, h2⟩ | ⟨g, r, h1, -⟩
  · rw [h1, zbs, zel, h2, zrs_lt g]
  · rw [h1, zbs, zer, zrs_ge g]
/-- what word the token is, for both -/
theorem w_both (hB : zBy n c by_ tp_) {h p k : Nat} (hhp : h ≤ p) (hpn : p ≤ n) (hk : k ≤ 3) : ∃ W : Int32, p_X3_wordOfToken (nI p) (nI k) (nI h) by_ = some W ∧ p_X6_nameHere (nI n) (nI p) (nI h) (nI k) tp_ zcuts zletters = some W ∧ (W = -4 ∨ ∃ w, w < 7 ∧ W = nI w) := by
  by_cases e : k = 1
  · subst e
    refine ⟨_, w_word hB hhp hpn, w_name hB hhp hpn, ?_⟩
    by_cases q : fa_first (zsy c h p) 7 < 7
    · exact Or.inr ⟨_, q, zrs_lt q⟩
    · exact Or.inl (zrs_ge q)
  · have ne : ¬ nI k = (1 : Int32) := nI_ne' (b := 1) e (by omega) (by decide)
    refine ⟨-4, ?_, ?_, Or.inl rfl⟩
    · unfold p_X3_wordOfToken; rw [if_neg ne]
    · have : z_lp (p_X6_nameHere_b2 (nI k) zcuts (nI p) (nI h) (nI n) tp_ zletters) 1000 (0 : Int32) = some (.inr ()) := by
        refine z_lp_en (n := 999) ?_
        unfold p_X6_nameHere_b2
        rw [if_neg (show ¬ (7 : Int32) ≤ 0 by decide), if_neg ne]
      unfold p_X6_nameHere
      rw [this, zbs]
      try rfl
end ZWD
