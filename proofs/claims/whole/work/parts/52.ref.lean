/-! THE REFERENCE'S PAGES -/
/-- page pg of the state holds the town T with its point and year; sil: the silent draw -/
def zM (T : zTn) (f : Nat → Int32) (pg : Nat) (sil : Int32) (pt yr : Nat) : Prop :=
  f (pg + 20) = nI (t_d T) ∧ f (pg + 21) + 44 = nI (t_ft T) ∧ f (pg + 22) + 44 = nI pt ∧ f (pg + 23) + 2 = nI (t_st T) ∧ f (pg + 24) + 9 = nI (t_be T) ∧ f (pg + 25) = nI yr ∧
  ∀ i, i < t_d T → f (pg + i) = nI (t_kd T i) ∧ f (pg + 5 + i) = nI (t_pl T i) ∧ f (pg + 10 + i) = nI (t_ca T i) ∧ (nI i = sil → t_si T i = 1000000) ∧ (¬ nI i = sil → f (pg + 15 + i) = nI (t_si T i))
theorem b_apart {a b : Nat} (ha : a < 2 ^ 31) (hb : b < 2 ^ 31) : p_X6_apart (nI a) (nI b) = some (nI ((a - b) + (b - a))) := by
  unfold p_X6_apart
  by_cases c : a ≤ b
  · rw [if_pos (nI_le c hb), pk_sub c, show (a - b) + (b - a) = b - a by omega]
  · rw [if_neg (nI_nle' c ha), pk_sub (show b ≤ a by omega), show (a - b) + (b - a) = a - b by omega]
theorem b_far {a b : Nat} (ha : a < 100) (hb : b < 100) : p_X6_farOf (nI a) (nI b) = some (nI (zfar a b)) := by
  unfold p_X6_farOf zfar
  simp only [zn_div10 (show a < 2 ^ 31 by omega), zn_div10 (show b < 2 ^ 31 by omega), zn_rem10 (show a < 2 ^ 31 by omega), zn_rem10 (show b < 2 ^ 31 by omega)]
  rw [b_apart (by omega) (by omega), zbs, b_apart (by omega) (by omega), zbs, nI_add]
section ZM
variable {T : zTn} {f : Nat → Int32} {pg : Nat} {sil : Int32} {pt yr : Nat}
theorem b_point (hM : zM T f pg sil pt yr) (hg : pg ≤ 130) : p_X6_pointOn (nI pg) f = some (nI pt) := by
  unfold p_X6_pointOn
  rw [z_get_e (pg + 22) (by rw [zi22, nI_add]) (by omega) (by decide), zbs, hM.2.2.1]
theorem b_lean (hV : zV T) (hM : zM T f pg sil pt yr) (hg : pg ≤ 130) (hp : pt < 100) : p_X6_leanOn (nI pg) f = some (nI (zln_ T pt)) := by
  unfold p_X6_leanOn
  rw [b_point hM hg, zbs, z_get_e (pg + 21) (by rw [zi21, nI_add]) (by omega) (by decide), zbs, hM.2.1, b_far hp hV.2.1]
  rfl
theorem b_fallen (hV : zV T) (hM : zM T f pg sil pt yr) (hg : pg ≤ 130) (hp : pt < 100) : p_X6_isFallenOn (nI pg) f = some (if zln_ T pt ≤ t_be T then 0 else 1) := by
  have hl : zln_ T pt ≤ 18 := zfar_le hp hV.2.1
  have hb := hV.2.2.2.1
  unfold p_X6_isFallenOn
  rw [b_lean hV hM hg hp, zbs, z_get_e (pg + 24) (by rw [zi24, nI_add]) (by omega) (by decide), zbs, hM.2.2.2.2.1]
  by_cases c : zln_ T pt ≤ t_be T
  · rw [if_pos (nI_le c (by omega)), if_pos c]
  · rw [if_neg (nI_nle' c (by omega)), if_neg c]
theorem b_str (hV : zV T) (hM : zM T f pg sil pt yr) (hg : pg ≤ 130) {i : Nat} (hi : i < t_d T) : p_X6_strengthOn (nI pg) (nI i) f = some (nI (zstr (t_kd T i) (t_pl T i))) := by
  obtain ⟨h1, h2, h3, h4, h5⟩ := hM.2.2.2.2.2.2 i hi
  obtain ⟨b1, b2, b3, b4⟩ := hV.2.2.2.2 i hi
  have hd := hV.1
  have e : nI (t_pl T i + 1) / nI 2 = nI ((t_pl T i + 1) / 2) := pk_div (d := 2) (by omega) (by decide) (by decide)
  unfold p_X6_strengthOn zstr
  rw [z_get_e (pg + i) (nI_add _ _) (by omega) (by decide), zbs, z_get_e (pg + 5 + i) (by rw [zi5, nI_add, nI_add]) (by omega) (by decide), zbs, h1, h2]
  simp only [e, zi0, zi1, zi2, zi3, nI_eq (show t_kd T i < 2 ^ 31 by omega) (show 0 < 2 ^ 31 by decide), nI_eq (show t_kd T i < 2 ^ 31 by omega) (show 1 < 2 ^ 31 by decide), nI_eq (show t_kd T i < 2 ^ 31 by omega) (show 2 < 2 ^ 31 by decide), nI_add, pk_mul]
  (repeat' split) <;> rfl
theorem b_force (hV : zV T) (hM : zM T f pg sil pt yr) (hg : pg ≤ 130) (hp : pt < 100) (hy : yr < 1000000) {i : Nat} (hi : i < t_d T) : p_X6_forceOn (nI pg) (nI i) sil f = some (nI (zfo T pt yr i)) := by
  obtain ⟨h1, h2, h3, h4, h5⟩ := hM.2.2.2.2.2.2 i hi
  obtain ⟨b1, b2, b3, b4⟩ := hV.2.2.2.2 i hi
  have hd := hV.1
  have hf := zfar_le b3 hp
  have hs := zstr_le (kd := t_kd T i) b2
  unfold p_X6_forceOn zfo
  by_cases q : nI i = sil
  · rw [if_pos q, h4 q, if_neg (show ¬ 1000000 ≤ yr by omega)]
    rfl
  · rw [if_neg q, z_get_e (pg + 25) (by rw [zi25, nI_add]) (by omega) (by decide), zbs, z_get_e (pg + 15 + i) (by rw [zi15, nI_add, nI_add]) (by omega) (by decide), zbs, hM.2.2.2.2.2.1, h5 q]
    by_cases c : t_si T i ≤ yr
    · rw [if_pos (nI_le c (by omega)), if_pos c, b_str hV hM hg hi, zbs, z_get_e (pg + 10 + i) (by rw [zi10, nI_add, nI_add]) (by omega) (by decide), zbs, b_point hM hg, zbs, h3, b_far b3 hp, zbs, zi60, pk_mul, zi1, nI_add, z_div_n (by omega) (by omega) (by omega)]
      rfl
    · rw [if_neg (nI_nle' c (by omega)), if_neg c]
      rfl
theorem b_back (hV : zV T) (hM : zM T f pg sil pt yr) (hg : pg ≤ 130) (hp : pt < 100) : p_X6_backOn (nI pg) f = some (nI (t_st T * zln_ T pt)) := by
  unfold p_X6_backOn
  rw [z_get_e (pg + 23) (by rw [zi23, nI_add]) (by omega) (by decide), zbs, b_lean hV hM hg hp, zbs, hM.2.2.2.1, pk_mul]
theorem b_holder (hV : zV T) (hM : zM T f pg sil pt yr) (hg : pg ≤ 130) (hp : pt < 100) (hy : yr < 1000000) : p_X6_holderOn (nI pg) sil f = some (zhc (zho T pt yr)) := by
  have hd := hV.1
  unfold p_X6_holderOn zho
  rw [b_back hV hM hg hp, zbs]
  have e20 : z_get f 156 (nI pg + (20 : Int32)) = some (nI (t_d T)) := by
    rw [z_get_e (pg + 20) (by rw [zi20, nI_add]) (by omega) (by decide), hM.1]
  have e0 : ((-4 : Int32), nI (t_st T * zln_ T pt), (0 : Int32)) = (fun i => (zhc (zhb T pt yr i).1, nI (zhb T pt yr i).2, nI i)) 0 := rfl
  by_cases c : zln_ T pt ≤ t_be T
  · rw [if_pos c]
    have run := z_lp_run (body := p_X6_holderOn_b12 f (nI pg) sil) (r := zhc (zhb T pt yr (t_d T)).1) (t_d T) (fun i => (zhc (zhb T pt yr i).1, nI (zhb T pt yr i).2, nI i)) 1000 ?_ ?_ (by omega)
    · rw [e0, run]
      rfl
    · intro i hi
      have hm := zhb_m hV hp yr i (by omega)
      have hfo := zfo_le hV (pt := pt) (yr := yr) hi
      show p_X6_holderOn_b12 f (nI pg) sil (zhc (zhb T pt yr i).1, nI (zhb T pt yr i).2, nI i) = _
      unfold p_X6_holderOn_b12
      rw [e20, zbs, if_neg (nI_ge hi (by omega)), b_fallen hV hM hg hp, zbs, if_pos c, if_pos rfl, b_force hV hM hg hp hy hi, zbs]
      by_cases q : zfo T pt yr i ≤ (zhb T pt yr i).2
      · rw [if_pos (nI_le q (by omega)), if_pos (nI_le q (by omega))]
        simp only [zhb, if_pos q, nI_succ]
      · rw [if_neg (nI_nle' q (by omega)), if_neg (nI_nle' q (by omega))]
        simp only [zhb, if_neg q, nI_succ]
        rfl
    · show p_X6_holderOn_b12 f (nI pg) sil (zhc (zhb T pt yr (t_d T)).1, nI (zhb T pt yr (t_d T)).2, nI (t_d T)) = _
      unfold p_X6_holderOn_b12
      rw [e20, zbs, if_pos (nI_le (Nat.le_refl _) (by omega))]
  · rw [if_neg c]
    have one : p_X6_holderOn_b12 f (nI pg) sil ((-4 : Int32), nI (t_st T * zln_ T pt), (0 : Int32)) = some (.inl (-4)) := by
      unfold p_X6_holderOn_b12
      rw [e20, zbs]
      by_cases q : nI (t_d T) ≤ (0 : Int32)
      · rw [if_pos q]
      · rw [if_neg q, b_fallen hV hM hg hp, zbs, if_neg c, if_neg (show ¬ (1 : Int32) = 0 by decide)]
    rw [z_lp, one]
    rfl
/-- the state with page pg's point and year anew -/
def zyr (f : Nat → Int32) (pg pt yr : Nat) : Nat → Int32 := upd (upd f (pg + 22) (nI pt - 44)) (pg + 25) (nI yr)
theorem zm44 (n : Nat) : nI n - 44 + 44 = nI n := by
  rw [Int32.sub_add_cancel]
theorem zm44' {x : Int32} {n : Nat} (h : x + 44 = nI n) : x = nI n - 44 := by
  rw [← h, Int32.add_sub_cancel]
theorem zyr_M (hM : zM T f pg sil pt yr) (pt' yr' : Nat) (hd : t_d T ≤ 5) : zM T (zyr f pg pt' yr') pg sil pt' yr' := by
  have hu : ∀ j, ¬ j = pg + 22 → ¬ j = pg + 25 → zyr f pg pt' yr' j = f j := by
    intro j h1 h2
    unfold zyr
    rw [pk_un h2, pk_un h1]
  obtain ⟨h1, h2, h3, h4, h5, h6, h7⟩ := hM
  refine ⟨by rw [hu _ (by omega) (by omega)]; exact h1, by rw [hu _ (by omega) (by omega)]; exact h2, ?_, by rw [hu _ (by omega) (by omega)]; exact h4, by rw [hu _ (by omega) (by omega)]; exact h5, ?_, ?_⟩
  · unfold zyr
    rw [pk_un (show ¬ pg + 22 = pg + 25 by omega), pk_us]
    exact zm44 pt'
  · unfold zyr
    rw [pk_us]
  · intro i hi
    rw [hu _ (by omega) (by omega), hu _ (by omega) (by omega), hu _ (by omega) (by omega), hu _ (by omega) (by omega)]
    exact h7 i hi
theorem b_goes (hM : zM T f pg sil pt yr) (hg : pg ≤ 130) (hp : pt < 100) {g : Nat} (hgo : g < 100) : p_X6_goesOn (nI pg) (nI g) f = some (upd f (pg + 22) (nI (zstp pt g) - 44)) := by
  unfold p_X6_goesOn
  rw [b_point hM hg, zbs, zbs]
  simp only [zn_div10 (show g < 2 ^ 31 by omega), zn_div10 (show pt < 2 ^ 31 by omega), zn_rem10 (show g < 2 ^ 31 by omega), zn_rem10 (show pt < 2 ^ 31 by omega)]
  rw [b_apart (by omega) (by omega), zbs, b_apart (by omega) (by omega), zbs]
  rw [z_set_e (pg + 22) (by rw [zi22, nI_add]) (by omega) (by decide)]
  refine congrArg (fun v => some (upd f (pg + 22) v)) ?_
  refine congrArg (fun v => v - (44 : Int32)) ?_
  unfold zstp
  by_cases c : (pt / 10 - g / 10) + (g / 10 - pt / 10) < (pt % 10 - g % 10) + (g % 10 - pt % 10)
  · rw [if_pos (nI_lt c (by omega)), if_pos (nI_lt c (by omega)), if_pos c]
    by_cases e : pt % 10 < g % 10
    · rw [if_neg (nI_ge e (by omega)), if_neg (nI_ge e (by omega)), if_pos e, zi10, pk_mul, nI_1, nI_add]
      exact congrArg nI (by omega)
    · have e1 : g % 10 ≤ pt % 10 := by omega
      rw [if_pos (nI_le e1 (by omega)), if_pos (nI_le e1 (by omega)), if_neg e, zi10, pk_mul, a_m1 (pt % 10) (by omega) (by omega), nI_add]
      exact congrArg nI (by omega)
  · rw [if_neg (nI_nlt' c (by omega)), if_neg (nI_nlt' c (by omega)), if_neg c]
    by_cases e : pt / 10 < g / 10
    · rw [if_neg (nI_ge e (by omega)), if_neg (nI_ge e (by omega)), if_pos e, nI_1, zi10, pk_mul, nI_add]
      exact congrArg nI (by omega)
    · have e1 : g / 10 ≤ pt / 10 := by omega
      rw [if_pos (nI_le e1 (by omega)), if_pos (nI_le e1 (by omega)), if_neg e]
      by_cases e2 : g / 10 < pt / 10
      · rw [if_neg (nI_ge e2 (by omega)), if_neg (nI_ge e2 (by omega)), if_pos e2, a_m1 (pt / 10) (by omega) (by omega), zi10, pk_mul, nI_add]
        exact congrArg nI (by omega)
      · have e3 : pt / 10 ≤ g / 10 := by omega
        rw [if_pos (nI_le e3 (by omega)), if_pos (nI_le e3 (by omega)), if_neg e2, zi0, nI_add, zi10, pk_mul, nI_add]
        exact congrArg nI (by omega)
theorem b_year (hV : zV T) (hM : zM T f pg sil pt yr) (hg : pg ≤ 130) (hp : pt < 100) (hy : yr < 1000000) : p_X6_yearOn (nI pg) sil f = some (zyr f pg (znp T pt (zho T pt yr)) (yr + 1)) := by
  have hd := hV.1
  have hle := zho_le T pt yr
  -- the middle: the state with the point moved
  have mid : (if zhc (zho T pt yr) = (-4 : Int32) then (p_X6_isFallenOn (nI pg) f).bind (fun o5 => if o5 = 0 then (p_X6_leanOn (nI pg) f).bind (fun o6 => if o6 ≤ 0 then some f else (z_get f 156 (nI pg + (21 : Int32))).bind (fun v7 => (p_X6_goesOn (nI pg) (v7 + (44 : Int32)) f).bind (fun o8 => some o8))) else some f) else (z_get f 156 ((nI pg + (10 : Int32)) + zhc (zho T pt yr))).bind (fun v11 => (p_X6_goesOn (nI pg) v11 f).bind (fun o12 => some o12))) = some (upd f (pg + 22) (nI (znp T pt (zho T pt yr)) - 44)) := by
    have same : some f = some (upd f (pg + 22) (nI pt - 44)) := by
      rw [fa_upd_same' (zm44' hM.2.2.1)]
    by_cases h0 : zho T pt yr = 0
    · rw [h0, if_pos zhc_0, b_fallen hV hM hg hp, zbs]
      unfold znp
      by_cases c : zln_ T pt ≤ t_be T
      · rw [if_pos c, if_pos rfl, b_lean hV hM hg hp, zbs, if_pos c, if_pos rfl]
        by_cases l0 : zln_ T pt = 0
        · rw [l0, if_pos (show nI 0 ≤ (0 : Int32) by decide), same]
          have : zstp pt (t_ft T) = pt := by
            have hf := hV.2.1
            unfold zln_ zfar at l0
            unfold zstp
            rw [if_neg (show ¬ (pt / 10 - t_ft T / 10) + (t_ft T / 10 - pt / 10) < (pt % 10 - t_ft T % 10) + (t_ft T % 10 - pt % 10) by omega), if_neg (show ¬ pt / 10 < t_ft T / 10 by omega), if_neg (show ¬ t_ft T / 10 < pt / 10 by omega)]
          rw [this]
        · rw [if_neg (show ¬ nI (zln_ T pt) ≤ 0 from nI_nle (by omega) (by have := zfar_le hp hV.2.1; unfold zln_; omega)), z_get_e (pg + 21) (by rw [zi21, nI_add]) (by omega) (by decide), zbs, hM.2.1, b_goes hM hg hp hV.2.1]
          rfl
      · rw [if_neg c, if_neg (show ¬ (1 : Int32) = 0 by decide), if_neg c]
        exact same
    · have hi : zho T pt yr - 1 < t_d T := by omega
      have c : zln_ T pt ≤ t_be T := by
        rcases Nat.lt_or_ge (t_be T) (zln_ T pt) with q | q
        · exfalso; apply h0; unfold zho; rw [if_neg (show ¬ zln_ T pt ≤ t_be T by omega)]
        · exact q
      rw [zhc_s (by omega), if_neg (nI_m4 (by omega)), z_get_e (pg + 10 + (zho T pt yr - 1)) (by rw [zi10, nI_add, nI_add]) (by omega) (by decide), zbs, (hM.2.2.2.2.2.2 _ hi).2.2.1, b_goes hM hg hp (hV.2.2.2.2 _ hi).2.2.1]
      unfold znp
      rw [if_pos c, if_neg h0]
      rfl
  unfold p_X6_yearOn
  rw [b_holder hV hM hg hp hy, zbs, mid, zbs, z_get_e (pg + 25) (by rw [zi25, nI_add]) (by omega) (by decide), zbs, pk_un (show ¬ pg + 25 = pg + 22 by omega), hM.2.2.2.2.2.1, nI_1, z_set_e (pg + 25) (by rw [zi25, nI_add]) (by omega) (by decide)]
  rfl
end ZM
