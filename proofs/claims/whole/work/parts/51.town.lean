/-! THE TOWN, as numbers. zTn: how many draws; of each kind, pull, cell, since; foot, stiff, bears -/
abbrev zTn : Type := Nat × (Nat → Nat) × (Nat → Nat) × (Nat → Nat) × (Nat → Nat) × Nat × Nat × Nat
abbrev t_d (T : zTn) : Nat := T.1
abbrev t_kd (T : zTn) : Nat → Nat := T.2.1
abbrev t_pl (T : zTn) : Nat → Nat := T.2.2.1
abbrev t_ca (T : zTn) : Nat → Nat := T.2.2.2.1
abbrev t_si (T : zTn) : Nat → Nat := T.2.2.2.2.1
abbrev t_ft (T : zTn) : Nat := T.2.2.2.2.2.1
abbrev t_st (T : zTn) : Nat := T.2.2.2.2.2.2.1
abbrev t_be (T : zTn) : Nat := T.2.2.2.2.2.2.2
def zfar (a b : Nat) : Nat := ((a / 10 - b / 10) + (b / 10 - a / 10)) + ((a % 10 - b % 10) + (b % 10 - a % 10))
def zstr (kd pl : Nat) : Nat := if kd = 0 then pl else if kd = 1 then (pl + 1) / 2 else if kd = 2 then (pl + 1) / 2 + 1 else 3 * ((pl + 1) / 2)
def zfo (T : zTn) (pt yr i : Nat) : Nat := if t_si T i ≤ yr then 60 * zstr (t_kd T i) (t_pl T i) / (1 + zfar (t_ca T i) pt) else 0
def zln_ (T : zTn) (pt : Nat) : Nat := zfar pt (t_ft T)
/-- the best of the first n draws (0 none, i + 1 the i-th), and the force to beat -/
def zhb (T : zTn) (pt yr : Nat) : Nat → Nat × Nat
  | 0 => (0, t_st T * zln_ T pt)
  | i + 1 => if zfo T pt yr i ≤ (zhb T pt yr i).2 then zhb T pt yr i else (i + 1, zfo T pt yr i)
def zho (T : zTn) (pt yr : Nat) : Nat := if zln_ T pt ≤ t_be T then (zhb T pt yr (t_d T)).1 else 0
def zstp (pt g : Nat) : Nat :=
  if (pt / 10 - g / 10) + (g / 10 - pt / 10) < (pt % 10 - g % 10) + (g % 10 - pt % 10) then (if pt % 10 < g % 10 then pt + 1 else pt - 1)
  else if pt / 10 < g / 10 then pt + 10 else if g / 10 < pt / 10 then pt - 10 else pt
def znp (T : zTn) (pt h : Nat) : Nat := if zln_ T pt ≤ t_be T then zstp pt (if h = 0 then t_ft T else t_ca T (h - 1)) else pt
/-- the point behind n years -/
def zps (T : zTn) (pt yr : Nat) : Nat → Nat
  | 0 => pt
  | n + 1 => znp T (zps T pt yr n) (zho T (zps T pt yr n) (yr + n))
def zhc (h : Nat) : Int32 := if h = 0 then -4 else nI (h - 1)
def zV (T : zTn) : Prop := t_d T ≤ 5 ∧ t_ft T < 100 ∧ t_st T ≤ 20 ∧ t_be T ≤ 18 ∧ ∀ i, i < t_d T → t_kd T i ≤ 3 ∧ t_pl T i ≤ 20 ∧ t_ca T i < 100 ∧ t_si T i ≤ 1000000
theorem zfar_le {a b : Nat} (ha : a < 100) (hb : b < 100) : zfar a b ≤ 18 := by unfold zfar; omega
theorem zstr_le {kd pl : Nat} (h : pl ≤ 20) : zstr kd pl ≤ 30 := by unfold zstr; (repeat' split) <;> omega
theorem zfo_le {T : zTn} (hV : zV T) {pt yr i : Nat} (hi : i < t_d T) : zfo T pt yr i ≤ 1800 := by
  unfold zfo
  split
  · have h := zstr_le (kd := t_kd T i) (hV.2.2.2.2 i hi).2.1
    exact Nat.le_trans (Nat.div_le_self _ _) (by omega)
  · omega
theorem zstp_lt {pt g : Nat} (hp : pt < 100) (hg : g < 100) : zstp pt g < 100 := by unfold zstp; (repeat' split) <;> omega
theorem zhb_le (T : zTn) (pt yr : Nat) : ∀ n, (zhb T pt yr n).1 ≤ n
  | 0 => Nat.le_refl 0
  | n + 1 => by
    have ih := zhb_le T pt yr n
    rw [zhb]
    split
    · omega
    · exact Nat.le_refl _
theorem zhb_m {T : zTn} (hV : zV T) {pt : Nat} (hp : pt < 100) (yr : Nat) : ∀ n, n ≤ t_d T → (zhb T pt yr n).2 ≤ 1800
  | 0, _ => by
    have h1 : zln_ T pt ≤ 18 := zfar_le hp hV.2.1
    have h2 : t_st T ≤ 20 := hV.2.2.1
    have h3 : t_st T * zln_ T pt ≤ 20 * 18 := Nat.mul_le_mul h2 h1
    show t_st T * zln_ T pt ≤ 1800
    omega
  | n + 1, hn => by
    have ih := zhb_m hV hp yr n (by omega)
    rw [zhb]
    split
    · exact ih
    · exact zfo_le hV (by omega)
theorem zho_le (T : zTn) (pt yr : Nat) : zho T pt yr ≤ t_d T := by
  unfold zho
  split
  · exact zhb_le T pt yr _
  · exact Nat.zero_le _
theorem znp_lt {T : zTn} (hV : zV T) {pt h : Nat} (hp : pt < 100) (hh : h ≤ t_d T) : znp T pt h < 100 := by
  unfold znp
  split
  · refine zstp_lt hp ?_
    split
    · exact hV.2.1
    · exact (hV.2.2.2.2 (h - 1) (by omega)).2.2.1
  · exact hp
theorem zps_lt {T : zTn} (hV : zV T) {pt yr : Nat} (hp : pt < 100) : ∀ n, zps T pt yr n < 100
  | 0 => hp
  | n + 1 => znp_lt hV (zps_lt hV hp n) (zho_le _ _ _)
/-! the class's own rows of it -/
def zA (T : zTn) (tr : Nat → Int32) : Prop := ∀ i, i < t_d T → tr (4 * i) = nI (t_kd T i) ∧ tr (4 * i + 1) = nI (t_pl T i) ∧ tr (4 * i + 2) = nI (t_ca T i) ∧ tr (4 * i + 3) = nI (t_si T i)
theorem a_abs10 : ∀ x, x < 10 → ∀ y, y < 10 → (if 0 ≤ nI x - nI y then nI x - nI y else -(nI x - nI y)) = nI ((x - y) + (y - x)) := by decide +kernel
theorem a_abs10z : ∀ x, x < 10 → ∀ y, y < 10 → (if 0 ≤ nI x - nI y then nI x - nI y else 0 - (nI x - nI y)) = nI ((x - y) + (y - x)) := by decide +kernel
theorem a_far {a b : Nat} (ha : a < 100) (hb : b < 100) : p_X5_far (nI a) (nI b) = some (nI (zfar a b)) := by
  have hx := a_abs10 (a / 10) (by omega) (b / 10) (by omega)
  have hy := a_abs10 (a % 10) (by omega) (b % 10) (by omega)
  unfold p_X5_far zfar
  simp only [zn_div10 (show a < 2 ^ 31 by omega), zn_div10 (show b < 2 ^ 31 by omega), zn_rem10 (show a < 2 ^ 31 by omega), zn_rem10 (show b < 2 ^ 31 by omega)]
  rw [hx]
  by_cases hc : 0 ≤ nI (a % 10) - nI (b % 10)
  · rw [if_pos hc] at hy
    rw [if_pos hc, hy, nI_add]
  · rw [if_neg hc] at hy
    rw [if_neg hc, hy, nI_add]
theorem a_lean {T : zTn} (hV : zV T) {pt : Nat} (hp : pt < 100) : p_X4_lean (nI (t_ft T)) (nI pt) = some (nI (zln_ T pt)) := by
  unfold p_X4_lean
  rw [a_far hp hV.2.1]
  rfl
theorem a_trait {T : zTn} {tr : Nat → Int32} {i j : Nat} (hi : i < 5) (hj : j < 4) : p_X4_trait (nI i) (nI j) tr = some (tr (4 * i + j)) := by
  unfold p_X4_trait
  rw [z_get_e (4 * i + j) (by rw [zi4, pk_mul, nI_add]) (by omega) (by decide)]
  rfl
theorem a_str {kd pl : Nat} (hk : kd ≤ 3) (hp : pl ≤ 20) : p_X4_strength (nI kd) (nI pl) = some (nI (zstr kd pl)) := by
  have e : nI (pl + 1) / nI 2 = nI ((pl + 1) / 2) := pk_div (d := 2) (by omega) (by decide) (by decide)
  unfold p_X4_strength zstr
  simp only [e, zi0, zi1, zi2, zi3, nI_eq (show kd < 2 ^ 31 by omega) (show 0 < 2 ^ 31 by decide), nI_eq (show kd < 2 ^ 31 by omega) (show 1 < 2 ^ 31 by decide), nI_eq (show kd < 2 ^ 31 by omega) (show 2 < 2 ^ 31 by decide), nI_add, pk_mul]
  (repeat' split) <;> rfl
theorem a_force {T : zTn} (hV : zV T) {tr : Nat → Int32} (hA : zA T tr) {pt yr i : Nat} (hp : pt < 100) (hy : yr < 2 ^ 30) (hi : i < t_d T) : p_X4_force (nI i) (nI pt) (nI yr) tr = some (nI (zfo T pt yr i)) := by
  obtain ⟨h1, h2, h3, h4⟩ := hA i hi
  obtain ⟨b1, b2, b3, b4⟩ := hV.2.2.2.2 i hi
  have hd := hV.1
  have hf := zfar_le b3 hp
  have hs := zstr_le (kd := t_kd T i) b2
  have t0 : p_X4_trait (nI i) (0 : Int32) tr = some (nI (t_kd T i)) := by rw [zi0, a_trait (T := T) (by omega) (by omega), ← h1]; rfl
  have t1 : p_X4_trait (nI i) (1 : Int32) tr = some (nI (t_pl T i)) := by rw [zi1, a_trait (T := T) (by omega) (by omega), h2]
  have t2 : p_X4_trait (nI i) (2 : Int32) tr = some (nI (t_ca T i)) := by rw [zi2, a_trait (T := T) (by omega) (by omega), h3]
  have t3 : p_X4_trait (nI i) (3 : Int32) tr = some (nI (t_si T i)) := by rw [zi3, a_trait (T := T) (by omega) (by omega), h4]
  have e1 : ¬ ((1 : Int32) + nI (zfar (t_ca T i) pt) ≤ 0) := by
    rw [zi1, nI_add]; exact nI_nle (by omega) (by omega)
  unfold p_X4_force zfo
  rw [t2, zbs, a_far b3 hp, zbs, if_neg e1, t3, zbs]
  by_cases c : t_si T i ≤ yr
  · rw [if_pos (nI_le c (by omega)), t0, zbs, t1, zbs, a_str b1 b2, zbs, if_pos c, zi60, pk_mul, zi1, nI_add, z_div_n (by omega) (by omega) (by omega)]
    rfl
  · rw [if_neg (nI_nle' c (by omega)), if_neg c]
    rfl
theorem a_holder {T : zTn} (hV : zV T) {tr : Nat → Int32} (hA : zA T tr) {pt yr : Nat} (hp : pt < 100) (hy : yr < 2 ^ 30) : p_X4_holder (nI (t_d T)) (nI (t_ft T)) (nI pt) (nI (t_st T)) (nI (t_be T)) (nI yr) tr = some (zhc (zho T pt yr)) := by
  have hd := hV.1
  have hb := hV.2.2.2.1
  have hl : zln_ T pt ≤ 18 := zfar_le hp hV.2.1
  unfold p_X4_holder zho
  rw [a_lean hV hp, zbs]
  by_cases c : zln_ T pt ≤ t_be T
  · rw [if_pos (nI_le c (by omega)), if_pos c]
    have run := z_lp_run (body := p_X4_holder_b29 (nI (t_d T)) (nI pt) (nI yr) tr) (r := zhc (zhb T pt yr (t_d T)).1) (t_d T) (fun i => (zhc (zhb T pt yr i).1, nI (zhb T pt yr i).2, nI i)) 1000 ?_ ?_ (by omega)
    · have e0 : ((-4 : Int32), nI (t_st T) * nI (zln_ T pt), (0 : Int32)) = (fun i => (zhc (zhb T pt yr i).1, nI (zhb T pt yr i).2, nI i)) 0 := by
        show _ = (zhc 0, nI (t_st T * zln_ T pt), nI 0)
        rw [pk_mul]; rfl
      rw [e0, run]
      rfl
    · intro i hi
      have hm := zhb_m hV hp yr i (by omega)
      have hfo := zfo_le hV (pt := pt) (yr := yr) hi
      show p_X4_holder_b29 (nI (t_d T)) (nI pt) (nI yr) tr (zhc (zhb T pt yr i).1, nI (zhb T pt yr i).2, nI i) = _
      unfold p_X4_holder_b29
      rw [if_neg (nI_ge hi (by omega)), a_force hV hA hp hy hi, zbs]
      by_cases q : zfo T pt yr i ≤ (zhb T pt yr i).2
      · rw [if_pos (nI_le q (by omega))]
        simp only [zhb, if_pos q, nI_succ]
      · rw [if_neg (nI_nle' q (by omega))]
        simp only [zhb, if_neg q, nI_succ]
        rfl
    · show p_X4_holder_b29 (nI (t_d T)) (nI pt) (nI yr) tr (zhc (zhb T pt yr (t_d T)).1, nI (zhb T pt yr (t_d T)).2, nI (t_d T)) = _
      unfold p_X4_holder_b29
      rw [if_pos (nI_le (Nat.le_refl _) (by omega))]
  · rw [if_neg (nI_nle' c (by omega)), if_neg c]
    rfl
theorem a_sgn : ∀ x, x < 10 → ∀ y, y < 10 → p_X5_sign (nI x - nI y) = some (if x = y then 0 else if y < x then 1 else -1) := by decide +kernel
theorem a_m1 : ∀ p, p < 100 → 0 < p → nI p + (-1 : Int32) = nI (p - 1) := by decide +kernel
theorem a_m10 : ∀ p, p < 100 → 10 ≤ p → nI p + ((10 : Int32) * (-1 : Int32)) = nI (p - 10) := by decide +kernel
theorem a_p10 : ∀ p, p < 100 → nI p + ((10 : Int32) * (1 : Int32)) = nI (p + 10) := by decide +kernel
theorem a_z10 : ∀ p, p < 100 → nI p + ((10 : Int32) * (0 : Int32)) = nI p := by decide +kernel
theorem a_step {pt g : Nat} (hp : pt < 100) (hg : g < 100) : p_X4_stepTowards (nI g) (nI pt) = some (nI (zstp pt g)) := by
  have hx := a_abs10z (g / 10) (by omega) (pt / 10) (by omega)
  have hy := a_abs10z (g % 10) (by omega) (pt % 10) (by omega)
  have sx := a_sgn (g / 10) (by omega) (pt / 10) (by omega)
  have sy := a_sgn (g % 10) (by omega) (pt % 10) (by omega)
  unfold p_X4_stepTowards zstp
  simp only [zn_div10 (show g < 2 ^ 31 by omega), zn_div10 (show pt < 2 ^ 31 by omega), zn_rem10 (show g < 2 ^ 31 by omega), zn_rem10 (show pt < 2 ^ 31 by omega)]
  rw [hx, hy, sx, sy]
  by_cases c : (g / 10 - pt / 10) + (pt / 10 - g / 10) < (g % 10 - pt % 10) + (pt % 10 - g % 10)
  · have c2 : (pt / 10 - g / 10) + (g / 10 - pt / 10) < (pt % 10 - g % 10) + (g % 10 - pt % 10) := by omega
    have c3 : ¬ g % 10 = pt % 10 := by omega
    rw [if_pos (nI_lt c (by omega)), if_pos c2, zbs, if_neg c3]
    by_cases e : pt % 10 < g % 10
    · rw [if_pos e, if_pos e, nI_1]
    · rw [if_neg e, if_neg e, a_m1 pt hp (by omega)]
  · have c2 : ¬ (pt / 10 - g / 10) + (g / 10 - pt / 10) < (pt % 10 - g % 10) + (g % 10 - pt % 10) := by omega
    rw [if_neg (nI_nlt' c (by omega)), if_neg c2, zbs]
    by_cases e0 : g / 10 = pt / 10
    · have e1 : ¬ pt / 10 < g / 10 := by omega
      have e2 : ¬ g / 10 < pt / 10 := by omega
      rw [if_pos e0, if_neg e1, if_neg e2, a_z10 pt hp]
    · rw [if_neg e0]
      by_cases e : pt / 10 < g / 10
      · rw [if_pos e, if_pos e, a_p10 pt hp]
      · have e2 : g / 10 < pt / 10 := by omega
        rw [if_neg e, if_neg e, if_pos e2, a_m10 pt hp (by omega)]
theorem a_fallen {T : zTn} (hV : zV T) {pt : Nat} (hp : pt < 100) : p_X4_isFallen (nI (t_ft T)) (nI pt) (nI (t_be T)) = some (if zln_ T pt ≤ t_be T then 0 else 1) := by
  have hl : zln_ T pt ≤ 18 := zfar_le hp hV.2.1
  have hb := hV.2.2.2.1
  unfold p_X4_isFallen
  rw [a_lean hV hp, zbs]
  by_cases c : zln_ T pt ≤ t_be T
  · rw [if_pos (nI_le c (by omega)), if_pos c]
  · rw [if_neg (nI_nle' c (by omega)), if_neg c]
theorem zhc_0 : zhc 0 = -4 := rfl
theorem zhc_s {h : Nat} (h0 : 0 < h) : zhc h = nI (h - 1) := by unfold zhc; rw [if_neg (by omega)]
theorem a_next {T : zTn} (hV : zV T) {tr : Nat → Int32} (hA : zA T tr) {pt h : Nat} (hp : pt < 100) (hh : h ≤ t_d T) : p_X4_nextPoint (zhc h) (nI (t_ft T)) (nI pt) (nI (t_be T)) tr = some (nI (znp T pt h)) := by
  have hd := hV.1
  unfold p_X4_nextPoint znp
  rw [a_fallen hV hp, zbs]
  by_cases c : zln_ T pt ≤ t_be T
  · rw [if_pos c, if_pos rfl, if_pos c]
    by_cases h0 : h = 0
    · subst h0
      rw [if_pos zhc_0, zbs, a_step hp hV.2.1]
      rfl
    · have hi : h - 1 < t_d T := by omega
      rw [zhc_s (by omega), if_neg (nI_m4 (by omega)), zi2, a_trait (T := T) (by omega) (by omega), (hA (h - 1) hi).2.2.1, zbs, zbs, a_step hp (hV.2.2.2.2 (h - 1) hi).2.2.1, if_neg h0]
      rfl
  · rw [if_neg c, if_neg (show ¬ (1 : Int32) = 0 by decide), if_neg c]
theorem a_year {T : zTn} (hV : zV T) {tr : Nat → Int32} (hA : zA T tr) {pt yr : Nat} (hp : pt < 100) (hy : yr < 2 ^ 30) : p_X4_passYear (nI (t_d T)) (nI (t_ft T)) (nI pt) (nI (t_st T)) (nI (t_be T)) (nI yr) tr = some (zhc (zho T pt yr), nI (znp T pt (zho T pt yr)), nI (yr + 1)) := by
  unfold p_X4_passYear
  rw [a_holder hV hA hp hy, zbs, a_next hV hA hp (zho_le _ _ _), zbs, nI_1]
theorem a_years {T : zTn} (hV : zV T) {tr : Nat → Int32} (hA : zA T tr) {pt yr n : Nat} (hp : pt < 100) (hy : yr + n < 2 ^ 30) (hn : n < 1000) : p_X4_passYears (nI n) (nI (t_d T)) (nI (t_ft T)) (nI pt) (nI (t_st T)) (nI (t_be T)) (nI yr) tr = some (nI (zps T pt yr n), nI (yr + n)) := by
  have run := z_lp_run (body := p_X4_passYears_b2 (nI n) (nI (t_d T)) (nI (t_ft T)) (nI (t_st T)) (nI (t_be T)) tr) (r := (nI (zps T pt yr n), nI (yr + n))) n (fun i => (nI i, nI (zps T pt yr i), nI (yr + i))) 1000 ?_ ?_ hn
  · unfold p_X4_passYears
    have e0 : ((0 : Int32), nI pt, nI yr) = (fun i => (nI i, nI (zps T pt yr i), nI (yr + i))) 0 := rfl
    rw [e0, run]
    rfl
  · intro i hi
    show p_X4_passYears_b2 (nI n) (nI (t_d T)) (nI (t_ft T)) (nI (t_st T)) (nI (t_be T)) tr (nI i, nI (zps T pt yr i), nI (yr + i)) = _
    unfold p_X4_passYears_b2
    rw [if_neg (nI_ge hi (by omega))]
    show (p_X4_passYear (nI (t_d T)) (nI (t_ft T)) (nI (zps T pt yr i)) (nI (t_st T)) (nI (t_be T)) (nI (yr + i)) tr).bind _ = _
    rw [a_year hV hA (zps_lt hV hp i) (by omega), zbs, nI_1]
    rfl
  · show p_X4_passYears_b2 (nI n) (nI (t_d T)) (nI (t_ft T)) (nI (t_st T)) (nI (t_be T)) tr (nI n, nI (zps T pt yr n), nI (yr + n)) = _
    unfold p_X4_passYears_b2
    rw [if_pos (nI_le (Nat.le_refl _) (by omega))]
