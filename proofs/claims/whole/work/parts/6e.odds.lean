/-! CALM YEARS: weights of cells against a sum over which years are calm -/
def zsm (g : Nat → Nat) : Nat → Nat
  | 0 => 0
  | n + 1 => zsm g n + g n
theorem zsm_congr {f g : Nat → Nat} : ∀ n, (∀ i, i < n → f i = g i) → zsm f n = zsm g n
  | 0, _ => rfl
  | n + 1, h => by
    rw [zsm, zsm, zsm_congr n (fun i hi => h i (by omega)), h n (by omega)]
theorem zsm_add (f g : Nat → Nat) : ∀ n, zsm (fun i => f i + g i) n = zsm f n + zsm g n
  | 0 => rfl
  | n + 1 => by
    rw [zsm, zsm, zsm, zsm_add f g n]
    omega
theorem zsm_split (f : Nat → Nat) (a : Nat) : ∀ b, zsm f (a + b) = zsm f a + zsm (fun i => f (a + i)) b
  | 0 => rfl
  | b + 1 => by
    show zsm f (a + b) + f (a + b) = zsm f a + (zsm (fun i => f (a + i)) b + f (a + b))
    rw [zsm_split f a b]
    omega
theorem zsm_mono {f g : Nat → Nat} : ∀ n, (∀ i, i < n → f i ≤ g i) → zsm f n ≤ zsm g n
  | 0, _ => Nat.le_refl 0
  | n + 1, h => by
    have ih := zsm_mono n (fun i hi => h i (by omega))
    have := h n (by omega)
    rw [zsm, zsm]
    omega
theorem zsm_one (f : Nat → Nat) : ∀ n i, i < n → f i ≤ zsm f n
  | 0, i, h => absurd h (Nat.not_lt_zero i)
  | n + 1, i, h => by
    rw [zsm]
    by_cases e : i = n
    · subst e; omega
    · have := zsm_one f n i (by omega)
      omega
theorem zsm_delta (g : Nat → Nat) (a x : Nat) : ∀ n, zsm (fun j => (if a = j then x else 0) * g j) n = if a < n then x * g a else 0
  | 0 => rfl
  | n + 1 => by
    rw [zsm, zsm_delta g a x n]
    by_cases e : a = n
    · subst e
      rw [if_neg (by omega), if_pos rfl, if_pos (by omega)]
      omega
    · rw [if_neg e, Nat.zero_mul]
      by_cases c : a < n
      · rw [if_pos c, if_pos (by omega)]
        omega
      · rw [if_neg c, if_neg (by omega)]
/-- one year of the weights -/
def zly (v : Nat) (W s : Nat → Nat) : Nat → Nat → Nat
  | 0, _ => 0
  | k + 1, j => zly v W s k j + (if k = j then v * W k else 0) + (if s k = j then (10 - v) * W k else 0)
theorem zly_sum (v : Nat) (W s g : Nat → Nat) (hs : ∀ c, c < 100 → s c < 100) : ∀ k, k ≤ 100 → zsm (fun j => zly v W s k j * g j) 100 = zsm (fun c => W c * (v * g c + (10 - v) * g (s c))) k
  | 0, _ => by
    rw [zsm_congr (g := fun j => (if (200 : Nat) = j then 0 else 0) * g j) 100 (fun i hi => by show 0 * g i = _; rw [if_neg (by omega)]), zsm_delta, if_neg (by omega)]
    rfl
  | k + 1, hk => by
    have ih := zly_sum v W s g hs k (by omega)
    have e : zsm (fun j => zly v W s (k + 1) j * g j) 100 = zsm (fun j => (zly v W s k j * g j + (if k = j then v * W k else 0) * g j) + (if s k = j then (10 - v) * W k else 0) * g j) 100 := zsm_congr 100 (fun i _ => by
      show (zly v W s k i + (if k = i then v * W k else 0) + (if s k = i then (10 - v) * W k else 0)) * g i = _
      rw [Nat.add_mul, Nat.add_mul])
    rw [e, zsm_add (fun j => zly v W s k j * g j + (if k = j then v * W k else 0) * g j), zsm_add (fun j => zly v W s k j * g j), ih, zsm_delta, zsm_delta, if_pos (by omega), if_pos (hs k (by omega)), zsm, Nat.mul_add, ← Nat.mul_assoc, ← Nat.mul_assoc, Nat.mul_comm (W k) v, Nat.mul_comm (W k) (10 - v)]
    omega
def zsx (T : zTn) (yr c : Nat) : Nat := znp T c (zho T c yr)
def zWn (T : zTn) (pt yr v : Nat) : Nat → Nat → Nat
  | 0 => fun j => if pt = j then 1 else 0
  | n + 1 => zly v (zWn T pt yr v n) (zsx T (yr + n)) 100
def zEx (T : zTn) (pt yr v n : Nat) (g : Nat → Nat) : Nat := zsm (fun c => zWn T pt yr v n c * g c) 100
theorem zEx_0 (T : zTn) {pt : Nat} (yr v : Nat) (g : Nat → Nat) (hp : pt < 100) : zEx T pt yr v 0 g = g pt := by
  show zsm (fun c => (if pt = c then 1 else 0) * g c) 100 = g pt
  rw [zsm_delta, if_pos hp, Nat.one_mul]
theorem zsx_lt {T : zTn} (hV : zV T) (yr : Nat) {c : Nat} (hc : c < 100) : zsx T yr c < 100 := znp_lt hV hc (zho_le _ _ _)
theorem zEx_s {T : zTn} (hV : zV T) (pt yr v n : Nat) (g : Nat → Nat) : zEx T pt yr v (n + 1) g = zEx T pt yr v n (fun c => v * g c + (10 - v) * g (zsx T (yr + n) c)) := zly_sum v (zWn T pt yr v n) (zsx T (yr + n)) g (fun c hc => zsx_lt hV _ hc) 100 (Nat.le_refl _)
theorem zEx_c {T : zTn} (hV : zV T) {pt : Nat} (hp : pt < 100) (yr : Nat) {v : Nat} (hv : v ≤ 10) : ∀ n K, zEx T pt yr v n (fun _ => K) = 10 ^ n * K
  | 0, K => by rw [zEx_0 T yr v _ hp, Nat.pow_zero, Nat.one_mul]
  | n + 1, K => by
    rw [zEx_s hV, show (fun c => v * (fun _ => K) c + (10 - v) * (fun _ => K) (zsx T (yr + n) c)) = (fun _ => 10 * K) from funext (fun c => by
      show v * K + (10 - v) * K = 10 * K
      rw [← Nat.add_mul, show v + (10 - v) = 10 by omega]), zEx_c hV hp yr hv n, Nat.pow_succ, Nat.mul_assoc]
theorem zWn_le {T : zTn} (hV : zV T) {pt : Nat} (hp : pt < 100) (yr : Nat) {v : Nat} (hv : v ≤ 10) (n : Nat) {c : Nat} (hc : c < 100) : zWn T pt yr v n c ≤ 10 ^ n := by
  have h := zEx_c hV hp yr hv n 1
  have h2 := zsm_one (fun c => zWn T pt yr v n c * 1) 100 c hc
  unfold zEx at h
  rw [h] at h2
  simpa using h2
theorem zEx_le {T : zTn} (hV : zV T) {pt : Nat} (hp : pt < 100) (yr : Nat) {v : Nat} (hv : v ≤ 10) (n B : Nat) {g : Nat → Nat} (hg : ∀ c, c < 100 → g c ≤ B) : zEx T pt yr v n g ≤ 10 ^ n * B := by
  rw [← zEx_c hV hp yr hv n B]
  exact zsm_mono 100 (fun c hc => Nat.mul_le_mul_left _ (hg c hc))
/-! which years are calm: the bits of a number -/
def zpr (T : zTn) (pt yr s : Nat) : Nat → Nat
  | 0 => pt
  | k + 1 => if s / 2 ^ k % 2 = 1 then zpr T pt yr s k else zsx T (yr + k) (zpr T pt yr s k)
def zod (v s : Nat) : Nat → Nat
  | 0 => 1
  | k + 1 => if s / 2 ^ k % 2 = 1 then zod v s k * v else zod v s k * (10 - v)
theorem zpr_lt {T : zTn} (hV : zV T) {pt : Nat} (hp : pt < 100) (yr s : Nat) : ∀ k, zpr T pt yr s k < 100
  | 0 => hp
  | k + 1 => by
    have ih := zpr_lt hV hp yr s k
    rw [zpr]
    split
    · exact ih
    · exact zsx_lt hV _ ih
theorem zbit_add (s n k : Nat) (h : k < n) : (2 ^ n + s) / 2 ^ k % 2 = s / 2 ^ k % 2 := by
  obtain ⟨d, rfl⟩ : ∃ d, n = k + (d + 1) := ⟨n - k - 1, by omega⟩
  have e : 2 ^ (k + (d + 1)) = 2 ^ k * (2 ^ d * 2) := by rw [Nat.pow_add, Nat.pow_succ]
  have hp : 0 < 2 ^ k := Nat.two_pow_pos k
  rw [e, Nat.add_comm, Nat.add_mul_div_left _ _ hp]
  omega
theorem zpr_add (T : zTn) (pt yr s n : Nat) : ∀ k, k ≤ n → zpr T pt yr (2 ^ n + s) k = zpr T pt yr s k
  | 0, _ => rfl
  | k + 1, h => by
    have ih := zpr_add T pt yr s n k (by omega)
    rw [zpr, zpr, ih, zbit_add s n k (by omega)]
theorem zod_add (v s n : Nat) : ∀ k, k ≤ n → zod v (2 ^ n + s) k = zod v s k
  | 0, _ => rfl
  | k + 1, h => by
    have ih := zod_add v s n k (by omega)
    rw [zod, zod, ih, zbit_add s n k (by omega)]
theorem zBx_eq {T : zTn} (hV : zV T) {pt : Nat} (hp : pt < 100) (yr v : Nat) : ∀ (n : Nat) (g : Nat → Nat), zsm (fun s => zod v s n * g (zpr T pt yr s n)) (2 ^ n) = zEx T pt yr v n g
  | 0, g => by
    rw [zEx_0 T yr v g hp]
    show 0 + 1 * g pt = g pt
    omega
  | n + 1, g => by
    have hp2 : 0 < 2 ^ n := Nat.two_pow_pos n
    rw [zEx_s hV, ← zBx_eq hV hp yr v n, Nat.pow_succ, Nat.mul_two, zsm_split, ← zsm_add]
    refine zsm_congr _ (fun s hs => ?_)
    have b0 : ¬ s / 2 ^ n % 2 = 1 := by rw [Nat.div_eq_of_lt hs]; decide
    have b1 : (2 ^ n + s) / 2 ^ n % 2 = 1 := by rw [Nat.add_comm, Nat.add_div_right _ hp2, Nat.div_eq_of_lt hs]
    show zod v s (n + 1) * g (zpr T pt yr s (n + 1)) + zod v (2 ^ n + s) (n + 1) * g (zpr T pt yr (2 ^ n + s) (n + 1)) = zod v s n * (v * g (zpr T pt yr s n) + (10 - v) * g (zsx T (yr + n) (zpr T pt yr s n)))
    rw [zod, zod, zpr, zpr, if_neg b0, if_neg b0, if_pos b1, if_pos b1, zod_add v s n n (Nat.le_refl _), zpr_add T pt yr s n n (Nat.le_refl _), Nat.mul_add, Nat.mul_assoc, Nat.mul_assoc]
    omega
/-! the class's rows -/
def zWw (w : Nat → Int64) (W : Nat → Nat) : Prop := ∀ c, c < 100 → w c = lN (W c)
theorem a_clear (w : Nat → Int64) : ∃ w', p_X0_clear w = some w' ∧ zWw w' (fun _ => 0) := by
  obtain ⟨r, h1, h2⟩ := z_lp_inv (body := p_X0_clear_b2) (R := fun r => zWw r (fun _ => 0)) 100 (fun i x => x.1 = nI i ∧ ∀ c, c < i → x.2 c = 0) 1000 ((0 : Int32), w)
    (by
      rintro i ⟨u, w⟩ hi ⟨e1, e2⟩
      have e1' : u = nI i := e1
      subst e1'
      refine ⟨(nI (i + 1), vp_updL w i 0), ?_, rfl, fun c hc => ?_⟩
      · unfold p_X0_clear_b2
        try dsimp only
        rw [if_neg (show ¬ (100 : Int32) ≤ nI i from nI_ge (b := 100) hi (by decide)), z_setL_n hi (by decide), zbs, nI_1]
      · try dsimp only
        by_cases q : c = i
        · rw [q, pk_uLs]
        · rw [pk_uLn q]; exact e2 c (by omega))
    (by
      rintro ⟨u, w⟩ ⟨e1, e2⟩
      have e1' : u = nI 100 := e1
      subst e1'
      refine ⟨w, ?_, fun c hc => e2 c hc⟩
      unfold p_X0_clear_b2
      try dsimp only
      rw [if_pos (show (100 : Int32) ≤ nI 100 by decide)])
    ⟨rfl, fun c hc => absurd hc (Nat.not_lt_zero c)⟩ (by decide)
  refine ⟨r, ?_, h2⟩
  unfold p_X0_clear
  rw [h1]
  rfl
section ZO
variable {T : zTn} {tr f : Nat → Int32} {pt yr v : Nat}
theorem a_wyear (hV : zV T) (hA : zA T tr) (hy : yr < 2000) (hv : v ≤ 10) {w : Nat → Int64} {W : Nat → Nat} (hw : zWw w W) (hb : ∀ c, c < 100 → W c < 2 ^ 62) (l : Nat → Int64) (po : Int32) : ∃ l' p', p_X0_passYear (nI v) w l (nI (t_d T)) (nI (t_ft T)) po (nI (t_st T)) (nI (t_be T)) (nI yr) tr = some (va_cpy l' w (0 : Int32).toNatClampNeg (0 : Int32).toNatClampNeg (100 : Int32).toNatClampNeg, l', p') ∧ zWw (va_cpy l' w (0 : Int32).toNatClampNeg (0 : Int32).toNatClampNeg (100 : Int32).toNatClampNeg) (zly v W (zsx T yr) 100) := by
  obtain ⟨l0, hl0, hz0⟩ := a_clear l
  obtain ⟨r, h1, h2⟩ := z_lp_inv (body := p_X0_passYear_b9 w (nI v) (nI (t_d T)) (nI (t_ft T)) (nI (t_st T)) (nI (t_be T)) (nI yr) tr) (R := fun r => zWw r.1 (zly v W (zsx T yr) 100)) 100 (fun i x => x.1 = nI i ∧ zWw x.2.1 (zly v W (zsx T yr) i)) 1000 ((0 : Int32), l0, po)
    (by
      rintro i ⟨u, l1, p1⟩ hi ⟨e1, e2⟩
      have e1' : u = nI i := e1
      subst e1'
      have e2' : zWw l1 (zly v W (zsx T yr) i) := e2
      have hst := zsx_lt hV yr hi
      have hwi := hw i hi
      have hbi := hb i hi
      have gw : z_get w 100 (nI i) = some (lN (W i)) := by rw [z_get_n hi (by decide), hwi]
      have gl : z_get l1 100 (nI i) = some (lN (zly v W (zsx T yr) i i)) := by rw [z_get_n hi (by decide), e2' i hi]
      have hh := a_holder hV hA hi (yr := yr) (by omega)
      have hn : p_X4_nextPoint (zhc (zho T i yr)) (nI (t_ft T)) (nI i) (nI (t_be T)) tr = some (nI (zsx T yr i)) := a_next hV hA hi (zho_le _ _ _)
      by_cases c0 : W i = 0
      · refine ⟨(nI (i + 1), l1, p1), ?_, rfl, fun c hc => ?_⟩
        · unfold p_X0_passYear_b9
          try dsimp only
          rw [if_neg (show ¬ (100 : Int32) ≤ nI i from nI_ge (b := 100) hi (by decide)), gw, zbs, if_pos (lg_z.mpr ((lN_z (by omega)).mpr c0)), nI_1]
        · show l1 c = _
          rw [e2' c hc]
          show lN _ = lN (zly v W (zsx T yr) i c + (if i = c then v * W i else 0) + (if zsx T yr i = c then (10 - v) * W i else 0))
          rw [c0, Nat.mul_zero, Nat.mul_zero]
          refine congrArg lN ?_
          (repeat' split) <;> omega
      · have vl : (nI v).toInt64 = lN v := nI_l (by omega)
        have vl2 : ((10 : Int32) - nI v).toInt64 = lN (10 - v) := by rw [zi10, pk_sub hv, nI_l (by omega)]
        refine ⟨(nI (i + 1), vp_updL (vp_updL l1 i (lN (zly v W (zsx T yr) i i + v * W i))) (zsx T yr i) (vp_updL l1 i (lN (zly v W (zsx T yr) i i + v * W i)) (zsx T yr i) + lN ((10 - v) * W i)), nI i), ?_, rfl, fun c hc => ?_⟩
        · unfold p_X0_passYear_b9
          try dsimp only
          rw [if_neg (show ¬ (100 : Int32) ≤ nI i from nI_ge (b := 100) hi (by decide)), gw, zbs, if_neg (fun q => c0 ((lN_z (by omega)).mp (lg_z.mp q))), gl, zbs, zbs, vl, lN_mul, lN_add, z_setL_n hi (by decide), zbs, hh, zbs, hn, zbs, z_get_n hst (by decide), zbs, zbs, vl2, lN_mul, z_setL_n hst (by decide), zbs, nI_1]
        · show vp_updL (vp_updL l1 i (lN (zly v W (zsx T yr) i i + v * W i))) (zsx T yr i) (vp_updL l1 i (lN (zly v W (zsx T yr) i i + v * W i)) (zsx T yr i) + lN ((10 - v) * W i)) c = lN (zly v W (zsx T yr) i c + (if i = c then v * W i else 0) + (if zsx T yr i = c then (10 - v) * W i else 0))
          by_cases q1 : c = zsx T yr i
          · rw [q1, pk_uLs, if_pos rfl]
            by_cases q2 : zsx T yr i = i
            · rw [q2, pk_uLs, if_pos rfl, lN_add]
            · rw [pk_uLn q2, if_neg (fun z => q2 z.symm), e2' _ hst, lN_add]
              refine congrArg lN (by omega)
          · rw [pk_uLn q1, if_neg (show ¬ zsx T yr i = c from fun z => q1 z.symm)]
            by_cases q2 : c = i
            · rw [q2, pk_uLs, if_pos rfl]
              refine congrArg lN (by omega)
            · rw [pk_uLn q2, if_neg (show ¬ i = c from fun z => q2 z.symm), e2' c hc]
              refine congrArg lN (by omega))
    (by
      rintro ⟨u, l1, p1⟩ ⟨e1, e2⟩
      have e1' : u = nI 100 := e1
      subst e1'
      refine ⟨(l1, p1), ?_, e2⟩
      unfold p_X0_passYear_b9
      try dsimp only
      rw [if_pos (show (100 : Int32) ≤ nI 100 by decide)])
    ⟨rfl, hz0⟩ (by decide)
  refine ⟨r.1, r.2, ?_, fun c hc => ?_⟩
  · unfold p_X0_passYear
    rw [hl0, zbs, h1]
    rfl
  · have e0 : (0 : Int32).toNatClampNeg = 0 := by decide
    have e100 : (100 : Int32).toNatClampNeg = 100 := by decide
    rw [e0, e100]
    unfold va_cpy
    rw [if_pos (by omega), show 0 + (c - 0) = c by omega]
    exact h2 c hc
theorem a_spread (hV : zV T) (hA : zA T tr) (hp : pt < 100) (hy : yr ≤ 999) (hv : v ≤ 10) {n : Nat} (hn : n ≤ 8) (w l : Nat → Int64) : ∃ o, p_X0_spread (nI v) (nI n) w l (nI (t_d T)) (nI (t_ft T)) (nI pt) (nI (t_st T)) (nI (t_be T)) (nI yr) tr = some o ∧ o.1 = lN (10 ^ n) ∧ zWw o.2.1 (zWn T pt yr v n) := by
  obtain ⟨w0, hw0, hz0⟩ := a_clear w
  obtain ⟨r, h1, h2, h3⟩ := z_lp_inv (body := p_X0_spread_b25 (nI n) (nI v) (nI (t_d T)) (nI (t_ft T)) (nI (t_st T)) (nI (t_be T)) tr) (R := fun r => r.1 = lN (10 ^ n) ∧ zWw r.2.1 (zWn T pt yr v n)) n (fun i x => x.1 = nI i ∧ x.2.1 = lN (10 ^ i) ∧ zWw x.2.2.1 (zWn T pt yr v i) ∧ x.2.2.2.2.2 = nI (yr + i)) 1000 ((0 : Int32), (1 : Int64), vp_updL w0 pt 1, l, nI pt, nI yr)
    (by
      rintro i ⟨u, q, w1, l1, p1, y1⟩ hi ⟨e1, e2, e3, e4⟩
      have e1' : u = nI i := e1
      have e2' : q = _ := e2
      have e4' : y1 = nI (yr + i) := e4
      subst e1' e2' e4'
      have e3' : zWw w1 (zWn T pt yr v i) := e3
      have hpow : 10 ^ i ≤ 10 ^ 8 := Nat.pow_le_pow_right (by decide) (by omega)
      obtain ⟨l', p', h1, h2⟩ := a_wyear hV hA (yr := yr + i) (by omega) hv e3' (fun c hc => by have := zWn_le hV hp yr hv i hc; omega) l1 p1
      refine ⟨(nI (i + 1), lN (10 ^ i * 10), va_cpy l' w1 (0 : Int32).toNatClampNeg (0 : Int32).toNatClampNeg (100 : Int32).toNatClampNeg, l', p', nI (yr + (i + 1))), ?_, rfl, ?_, h2, rfl⟩
      · unfold p_X0_spread_b25
        try dsimp only
        rw [if_neg (nI_ge hi (by omega)), h1, zbs, show (10 : Int64) = lN 10 from rfl, lN_mul, nI_1, nI_1]
        rfl
      · show lN (10 ^ i * 10) = lN (10 ^ (i + 1))
        rw [Nat.pow_succ])
    (by
      rintro ⟨u, q, w1, l1, p1, y1⟩ ⟨e1, e2, e3, e4⟩
      have e1' : u = nI n := e1
      subst e1'
      refine ⟨(q, w1, l1, p1, y1), ?_, e2, e3⟩
      unfold p_X0_spread_b25
      try dsimp only
      rw [if_pos (nI_le (Nat.le_refl _) (by omega))])
    ⟨rfl, rfl, (fun c hc => by
      show vp_updL w0 pt 1 c = lN (if pt = c then 1 else 0)
      by_cases e : c = pt
      · rw [e, pk_uLs, if_pos rfl]; rfl
      · rw [pk_uLn e, if_neg (fun z => e z.symm)]; exact hz0 c hc), rfl⟩ (by omega)
  refine ⟨(r.1, r.2.1, r.2.2.1, r.2.2.2.1, r.2.2.2.2), ?_, h2, h3⟩
  unfold p_X0_spread
  rw [hw0, zbs, z_setL_n hp (by decide), zbs, h1]
  rfl
theorem a_ltot {w : Nat → Int64} {W : Nat → Nat} (hw : zWw w W) {ft : Nat} (hf : ft < 100) : p_X0_leanTotal (nI ft) w = some (lN (zsm (fun c => W c * zfar c ft) 100)) := by
  have run := z_lp_run (body := p_X0_leanTotal_b5 w (nI ft)) (r := lN (zsm (fun c => W c * zfar c ft) 100)) 100 (fun i => (lN (zsm (fun c => W c * zfar c ft) i), nI i)) 1000 ?_ ?_ (by decide)
  · unfold p_X0_leanTotal
    have e0 : ((0 : Int64), (0 : Int32)) = (fun i => (lN (zsm (fun c => W c * zfar c ft) i), nI i)) 0 := rfl
    rw [e0, run]
    rfl
  · intro i hi
    have hfl := zfar_le hi hf
    try dsimp only
    unfold p_X0_leanTotal_b5
    try dsimp only
    rw [if_neg (show ¬ (100 : Int32) ≤ nI i from nI_ge (b := 100) hi (by decide)), z_get_n hi (by decide), zbs, hw i hi, a_far hi hf, zbs, nI_l (by omega), lN_mul, lN_add, nI_1]
    rfl
  · try dsimp only
    unfold p_X0_leanTotal_b5
    try dsimp only
    rw [if_pos (show (100 : Int32) ≤ nI 100 by decide)]
/-! the reference's -/
theorem zyr_up (G : Nat → Int32) (pg p y : Nat) : upd (zyr G pg p y) (pg + 25) (nI (y + 1)) = zyr G pg p (y + 1) := by
  funext j
  unfold zyr
  by_cases e : j = pg + 25
  · rw [e, pk_us, pk_us]
  · rw [pk_un e, pk_un e, pk_un e]
theorem zbit_j {s k : Nat} (hs : s < 2 ^ 31) (hk : k < 32) : (nI s >>> (nI k &&& 31)) &&& (1 : Int32) = nI (s / 2 ^ k % 2) := by
  have e : ∀ k, k < 32 → ((nI k &&& 31).toBitVec.smod 32).toNat = k := by decide
  rw [pk_shrN hs _ k (e k hk), pk_andN (Nat.lt_of_le_of_lt (Nat.div_le_self _ _) (by omega)) 1 (by decide)]
theorem b_path (hV : zV T) {G : Nat → Int32} (hC : zM T G 104 (-4) pt yr) (hp : pt < 100) (hy : yr ≤ 999) (hv : v ≤ 10) {n s : Nat} (hn : n ≤ 8) (hs : s < 256) (O : Int64 × Int32 × (Nat → Int32)) (hO : O.2.1 = nI s) : z_lp (p_X6_byCalm_b53 (nI n) O (nI v) (-4)) 1000 ((1 : Int64), (0 : Int32), G) = some (lN (zod v s n), zyr G 104 (zpr T pt yr s n) (yr + n)) := by
  have hd := hV.1
  have run := z_lp_run (body := p_X6_byCalm_b53 (nI n) O (nI v) (-4)) (r := (lN (zod v s n), zyr G 104 (zpr T pt yr s n) (yr + n))) n (fun k => (lN (zod v s k), nI k, zyr G 104 (zpr T pt yr s k) (yr + k))) 1000 ?_ ?_ (by omega)
  · have e0 : ((1 : Int64), (0 : Int32), G) = (fun k => (lN (zod v s k), nI k, zyr G 104 (zpr T pt yr s k) (yr + k))) 0 := by
      show _ = (lN 1, nI 0, zyr G 104 pt yr)
      rw [zyr_same hC]; rfl
    rw [e0, run]
  · intro k hk
    have hpk := zpr_lt hV hp yr s k
    have M1 := zyr_M hC (zpr T pt yr s k) (yr + k) hd
    have vl : (nI v).toInt64 = lN v := nI_l (by omega)
    have vl2 : ((10 : Int32) - nI v).toInt64 = lN (10 - v) := by rw [zi10, pk_sub hv, nI_l (by omega)]
    try dsimp only
    unfold p_X6_byCalm_b53
    try dsimp only
    rw [if_neg (nI_ge hk (by omega)), hO, zbit_j (by omega) (by omega), vl, vl2, lN_mul, lN_mul, nI_1, zod, zpr]
    by_cases c : s / 2 ^ k % 2 = 1
    · have g129 : z_get (zyr G 104 (zpr T pt yr s k) (yr + k)) 156 (129 : Int32) = some (nI (yr + k)) := by
        rw [z_get_e (104 + 25) (show (129 : Int32) = nI (104 + 25) from rfl) (by decide) (by decide), M1.2.2.2.2.2.1]
      rw [if_pos (show nI (s / 2 ^ k % 2) = (1 : Int32) by rw [c]; rfl), if_pos c, if_pos c, g129, zbs, nI_1, z_set_e (104 + 25) (show (129 : Int32) = nI (104 + 25) from rfl) (by decide) (by decide), zbs, zyr_up]
      rfl
    · have y1 : p_X6_yearOn (104 : Int32) (-4) (zyr G 104 (zpr T pt yr s k) (yr + k)) = _ := b_year hV M1 (by decide) hpk (by omega)
      rw [if_neg (show ¬ nI (s / 2 ^ k % 2) = (1 : Int32) from nI_ne' (b := 1) c (by omega) (by decide)), if_neg c, if_neg c, y1, zbs, zyr_yr]
      rfl
  · try dsimp only
    unfold p_X6_byCalm_b53
    try dsimp only
    rw [if_pos (nI_le (Nat.le_refl _) (by omega))]
theorem b_down {n : Nat} (hn : n ≤ 8) : z_lp (p_X6_byCalm_b9 (nI n)) 1000 ((1 : Int64), (0 : Int32)) = some (lN (10 ^ n)) := by
  have run := z_lp_run (body := p_X6_byCalm_b9 (nI n)) (r := lN (10 ^ n)) n (fun k => (lN (10 ^ k), nI k)) 1000 ?_ ?_ (by omega)
  · have e0 : ((1 : Int64), (0 : Int32)) = (fun k => (lN (10 ^ k), nI k)) 0 := rfl
    rw [e0, run]
  · intro k hk
    try dsimp only
    unfold p_X6_byCalm_b9
    try dsimp only
    rw [if_neg (nI_ge hk (by omega)), show (10 : Int64) = lN 10 from rfl, lN_mul, nI_1, Nat.pow_succ]
  · try dsimp only
    unfold p_X6_byCalm_b9
    try dsimp only
    rw [if_pos (nI_le (Nat.le_refl _) (by omega))]
theorem z_pow : ∀ n, n ≤ 8 → (1 : Int32) <<< (nI n &&& 31) = nI (2 ^ n) := by decide
/-- g4: the cell, or -4: the lean -/
theorem b_calm (hV : zV T) (hM : zM T f 0 (-4) pt yr) (hp : pt < 100) (hy : yr ≤ 999) (hv : v ≤ 10) {n : Nat} (hn : n ≤ 8) (ce : Int32) (gg : Nat → Nat) (hg : (ce = -4 ∧ gg = zln_ T) ∨ ∃ c, c < 100 ∧ ce = nI c ∧ gg = fun p => if c = p then 1 else 0) : ∃ r, z_lp (p_X6_byCalm_b32 (nI n) (nI v) (-4) ce) 1000 ((0 : Int64), (0 : Int32), f) = some r ∧ r.1 = lN (zsm (fun s => zod v s n * gg (zpr T pt yr s n)) (2 ^ n)) ∧ zLo f r.2 := by
  have hd := hV.1
  have h256 : 2 ^ n ≤ 2 ^ 8 := Nat.pow_le_pow_right (by decide) hn
  refine z_lp_inv (body := (p_X6_byCalm_b32 (nI n) (nI v) (-4) ce)) (R := fun r => r.1 = lN (zsm (fun s => zod v s n * gg (zpr T pt yr s n)) (2 ^ n)) ∧ zLo f r.2) (2 ^ n) (fun s x => x.1 = lN (zsm (fun s => zod v s n * gg (zpr T pt yr s n)) s) ∧ x.2.1 = nI s ∧ zLo f x.2.2) 1000 _ ?_ ?_ ⟨rfl, rfl, zLo_r f⟩ (by omega)
  · rintro s ⟨u, w, g⟩ hs ⟨e1, e2, e3⟩
    have e1' : u = _ := e1
    have e2' : w = nI s := e2
    subst e1' e2'
    have e3' : zLo f g := e3
    have hC := zM_cp (b := 104) hd (zLo_M hd e3' hM)
    have hl2 : zLo f (zcp g 0 104) := zLo_c e3' (by decide)
    have hcp := b_cp104 (f := g)
    have hpath := b_path hV (G := zcp g 0 104) hC hp hy hv hn (show s < 256 by omega) (lN (zsm (fun s => zod v s n * gg (zpr T pt yr s n)) s), nI s, g) rfl
    have hpk := zpr_lt hV hp yr s n
    have M1 := zyr_M hC (zpr T pt yr s n) (yr + n) hd
    have hl3 : zLo f (zyr (zcp g 0 104) 104 (zpr T pt yr s n) (yr + n)) := zLo_y hl2 (by decide)
    refine ⟨(lN (zsm (fun s => zod v s n * gg (zpr T pt yr s n)) (s + 1)), nI (s + 1), zyr (zcp g 0 104) 104 (zpr T pt yr s n) (yr + n)), ?_, rfl, rfl, hl3⟩
    have hz : zsm (fun s => zod v s n * gg (zpr T pt yr s n)) (s + 1) = zsm (fun s => zod v s n * gg (zpr T pt yr s n)) s + zod v s n * gg (zpr T pt yr s n) := rfl
    have hpo : p_X6_pointOn (104 : Int32) (zyr (zcp g 0 104) 104 (zpr T pt yr s n) (yr + n)) = some (nI (zpr T pt yr s n)) := b_point M1 (by decide)
    have hle : p_X6_leanOn (104 : Int32) (zyr (zcp g 0 104) 104 (zpr T pt yr s n) (yr + n)) = some (nI (zln_ T (zpr T pt yr s n))) := b_lean hV M1 (by decide) hpk
    have hl18 : zln_ T (zpr T pt yr s n) ≤ 18 := zfar_le hpk hV.2.1
    unfold p_X6_byCalm_b32
    try dsimp only
    rw [z_pow n hn, if_neg (nI_ge hs (by omega)), hcp, zbs, hpath, zbs, hz]
    try dsimp only
    rw [hpo, zbs, hle, zbs, nI_1]
    rcases hg with ⟨rfl, rfl⟩ | ⟨c, hc, rfl, rfl⟩
    · rw [if_pos rfl, nI_l (by omega), lN_mul, lN_add]
    · rw [if_neg (nI_m4 (by omega))]
      by_cases q : c = zpr T pt yr s n
      · rw [if_pos (by rw [q]), show (fun p => if c = p then 1 else 0) (zpr T pt yr s n) = 1 from if_pos q, show (1 : Int32).toInt64 = lN 1 from rfl, lN_mul, lN_add]
      · rw [if_neg (nI_ne' (fun z => q z.symm) (by omega) (by omega)), show (fun p => if c = p then 1 else 0) (zpr T pt yr s n) = 0 from if_neg q, show (0 : Int32).toInt64 = lN 0 from rfl, lN_mul, lN_add]
  · rintro ⟨u, w, g⟩ ⟨e1, e2, e3⟩
    have e2' : w = nI (2 ^ n) := e2
    subst e2'
    refine ⟨(u, g), ?_, e1, e3⟩
    unfold p_X6_byCalm_b32
    try dsimp only
    rw [z_pow n hn, if_pos (nI_le (Nat.le_refl _) (by omega))]
end ZO
