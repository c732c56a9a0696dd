/-! SEARCHES among variants -/
theorem z_lp_first {σ α β : Type} {body : σ → Option ((α ⊕ β) ⊕ σ)} (P : Nat → Bool) (M : Nat) (J : Nat → σ → Prop) (A : Nat → α → Prop) (B : β → Prop) (fuel : Nat) (x : σ) (hs : ∀ i x, i < M → J i x → P i = false → ∃ y, body x = some (.inr y) ∧ J (i + 1) y) (hy : ∀ i x, i < M → J i x → P i = true → ∃ r, body x = some (.inl (.inl r)) ∧ A i r) (hn : ∀ x, J M x → ∃ r, body x = some (.inl (.inr r)) ∧ B r) (h0 : J 0 x) (hf : M < fuel) : (fa_first P M < M ∧ ∃ r, z_lp body fuel x = some (.inl r) ∧ A (fa_first P M) r) ∨ (¬ fa_first P M < M ∧ ∃ r, z_lp body fuel x = some (.inr r) ∧ B r) := by
  have hle := fa_first_le P M
  by_cases c : fa_first P M < M
  · left
    refine ⟨c, ?_⟩
    have hyes := fa_first_yes P M c
    obtain ⟨r, h1, r', h2, h3⟩ := z_lp_inv (body := body) (R := fun r => ∃ r', r = .inl r' ∧ A (fa_first P M) r') (fa_first P M) J fuel x (fun i x hi hx => hs i x (by omega) hx (fa_first_no P M i hi)) (fun x hx => by
      obtain ⟨r, h1, h2⟩ := hy _ x c hx hyes
      exact ⟨_, h1, r, rfl, h2⟩) h0 (by omega)
    exact ⟨r', by rw [h1, h2], h3⟩
  · right
    refine ⟨c, ?_⟩
    have e : fa_first P M = M := by omega
    obtain ⟨r, h1, r', h2, h3⟩ := z_lp_inv (body := body) (R := fun r => ∃ r', r = .inr r' ∧ B r') M J fuel x (fun i x hi hx => hs i x hi hx (fa_first_no P M i (by omega))) (fun x hx => by
      obtain ⟨r, h1, h2⟩ := hn x hx
      exact ⟨_, h1, r, rfl, h2⟩) h0 hf
    exact ⟨r', by rw [h1, h2], h3⟩
theorem zrs_lt {k N : Nat} (h : k < N) : zrs k N = nI k := if_pos h
theorem zrs_ge {k N : Nat} (h : ¬ k < N) : zrs k N = -4 := if_neg h
theorem zrs_m4 {k N : Nat} (hN : N < 2 ^ 31) : zrs k N = (-4 : Int32) ↔ ¬ k < N := by
  constructor
  · intro q c
    rw [zrs_lt c] at q
    exact nI_m4 (by omega) q
  · intro q; exact zrs_ge q
theorem fa_first_all {p : Nat → Bool} {n : Nat} : ¬ fa_first p n < n ↔ ∀ i, i < n → p i = false := by
  have hle := fa_first_le p n
  constructor
  · intro q i hi
    exact fa_first_no p n i (by omega)
  · intro h c
    have h1 := fa_first_yes p n c
    rw [h _ c] at h1
    exact absurd h1 (by decide)
/-- the first of fewer -/
theorem fa_first_min (p : Nat → Bool) {m n : Nat} (h : m ≤ n) : fa_first p m = if fa_first p n < m then fa_first p n else m := by
  have a1 := fa_first_le p m
  have a2 := fa_first_le p n
  by_cases c : fa_first p n < m
  · rw [if_pos c]
    have y := fa_first_yes p n (by omega)
    rcases Nat.lt_trichotomy (fa_first p m) (fa_first p n) with q | q | q
    · have y2 := fa_first_yes p m (by omega)
      rw [fa_first_no p n _ q] at y2
      exact absurd y2 (by decide)
    · exact q
    · rw [fa_first_no p m _ q] at y
      exact absurd y (by decide)
  · rw [if_neg c]
    by_cases d : fa_first p m < m
    · have y2 := fa_first_yes p m d
      rw [fa_first_no p n _ (by omega)] at y2
      exact absurd y2 (by decide)
    · omega
theorem zgl_iff (T : zTn) (pt yr B : Nat) : ∀ n, zgl T pt yr n ≤ B ↔ ∀ i, i < n + 1 → zln_ T (zps T pt yr i) ≤ B
  | 0 => ⟨fun h i hi => by rw [show i = 0 by omega]; exact h, fun h => h 0 (by omega)⟩
  | n + 1 => by
    have ih := zgl_iff T pt yr B n
    rw [zgl]
    constructor
    · intro h i hi
      by_cases e : i = n + 1
      · rw [e]
        split at h <;> omega
      · refine ih.mp ?_ i (by omega)
        split at h <;> omega
    · intro h
      have h1 := ih.mpr (fun i hi => h i (by omega))
      have h2 := h (n + 1) (by omega)
      split <;> assumption
theorem zfall_iff (T : zTn) (pt yr : Nat) : ¬ fa_first (zfl T pt yr) 61 < 61 ↔ zgl T pt yr 60 ≤ t_be T := by
  rw [fa_first_all, zgl_iff]
  constructor
  · intro h i hi
    exact Decidable.not_not.mp (of_decide_eq_false (h i hi))
  · intro h i hi
    exact decide_eq_false (fun q => q (h i hi))
/-- the reference's state as it was, below page 104 -/
def zLo (f g : Nat → Int32) : Prop := ∀ j, j < 104 → g j = f j
theorem zLo_r (f : Nat → Int32) : zLo f f := fun _ _ => rfl
theorem zLo_u {f g : Nat → Int32} {j : Nat} {x : Int32} (h : zLo f g) (hj : 104 ≤ j) : zLo f (upd g j x) := fun i hi => by rw [pk_un (by omega)]; exact h i hi
theorem zLo_c {f g : Nat → Int32} {a b : Nat} (h : zLo f g) (hb : 104 ≤ b) : zLo f (zcp g a b) := fun i hi => by rw [zcp_out (by omega)]; exact h i hi
theorem zLo_y {f g : Nat → Int32} {b p y : Nat} (h : zLo f g) (hb : 104 ≤ b) : zLo f (zyr g b p y) := fun i hi => by rw [zyr_out (by omega)]; exact h i hi
theorem zLo_M {T : zTn} {f g : Nat → Int32} {sil : Int32} {pt yr : Nat} (hd : t_d T ≤ 5) (h : zLo f g) (hM : zM T f 0 sil pt yr) : zM T g 0 sil pt yr := zM_congr hd hM (fun j hj => h _ (by omega))
theorem zLo_Pg {f g : Nat → Int32} {dr ft po st be ye : Int32} {tr : Nat → Int32} (h : zLo f g) (q : zPg f 0 dr ft po st be ye tr) : zPg g 0 dr ft po st be ye tr := zPg_keep q (fun j hj => h _ (by omega))
theorem zLo_I1 {f g : Nat → Int32} {kx km dr ft po st be ye : Int32} {tr : Nat → Int32} (h : zLo f g) (q : zIm f 26 kx km dr ft po st be ye tr) : zIm g 26 kx km dr ft po st be ye tr := zIm_keep q (fun j hj => h _ (by omega))
theorem zLo_I2 {f g : Nat → Int32} {kx km dr ft po st be ye : Int32} {tr : Nat → Int32} (h : zLo f g) (q : zIm f 52 kx km dr ft po st be ye tr) : zIm g 52 kx km dr ft po st be ye tr := zIm_keep q (fun j hj => h _ (by omega))
theorem b_cp130 {f : Nat → Int32} : p_X6_copies (0 : Int32) (130 : Int32) f = some (zcp f 0 130) := b_copies (a := 0) (b := 130) (by decide) (by decide) (by decide)
theorem b_cp104 {f : Nat → Int32} : p_X6_copies (0 : Int32) (104 : Int32) f = some (zcp f 0 104) := b_copies (a := 0) (b := 104) (by decide) (by decide) (by decide)
theorem a_set {i w : Nat} {v : Int32} {tr : Nat → Int32} (hi : i < 5) (hw : w < 4) : p_X4_setTrait (nI i) (nI w) v tr = some (upd tr (4 * i + w) v) := by
  unfold p_X4_setTrait
  rw [z_set_e (4 * i + w) (by rw [zi4, pk_mul, nI_add]) (by omega) (by decide)]
  rfl
theorem a_sup {i w : Nat} {v dr ft po st be ye : Int32} {tr t : Nat → Int32} (hi : i < 5) (hw : w < 4) : p_X5_suppose (nI i) (nI w) v dr ft po st be ye tr t = some (dr, ft, po, st, be, ye, upd (zct tr t) (4 * i + w) v) := by
  unfold p_X5_suppose p_X4_copyFrom
  rw [zbs]
  show (p_X4_setTrait (nI i) (nI w) v (zct tr t)).bind _ = _
  rw [a_set hi hw]
  rfl
section ZN
variable {T : zTn} {tr f : Nat → Int32} {pt yr : Nat}
/-- need -/
def zneed (T : zTn) (pt yr v : Nat) : Bool := decide (zgl (zTbe T v) pt yr 60 ≤ v)
theorem a_need (hV : zV T) (hA : zA T tr) (hp : pt < 100) (hy : yr ≤ 999) (x1 x2 x3 x4 x5 x6 : Int32) (x7 : Nat → Int32) : ∃ j, p_X5_need (nI (t_d T)) (nI (t_ft T)) (nI pt) (nI (t_st T)) (nI (t_be T)) (nI yr) tr x1 x2 x3 x4 x5 x6 x7 = some (zrs (fa_first (zneed T pt yr) 19) 19, j) := by
  have one : ∀ (i : Nat) (x : Int32 × Int32 × Int32 × Int32 × Int32 × Int32 × Int32 × (Nat → Int32)), i < 19 → x.1 = nI i → ∃ a b, p_X5_need_b2 (nI (t_d T)) (nI (t_ft T)) (nI pt) (nI (t_st T)) (nI (t_be T)) (nI yr) tr x = if zneed T pt yr i = true then some (.inl (.inl (nI i, nI (t_d T), nI (t_ft T), a, nI (t_st T), nI i, b, zct tr x.2.2.2.2.2.2.2))) else some (.inr (nI (i + 1), nI (t_d T), nI (t_ft T), a, nI (t_st T), nI i, b, zct tr x.2.2.2.2.2.2.2)) := by
    rintro i ⟨v, y1, y2, y3, y4, y5, y6, y7⟩ hi hx
    have hx' : v = nI i := hx
    subst hx'
    obtain ⟨a, b, h⟩ := a_fall (T := zTbe T i) (zV_be hV (by omega)) (show zA (zTbe T i) (zct tr y7) from zA_ct hV.1 hA) hp (yr := yr) (by omega)
    have hk := zfall_iff (zTbe T i) pt yr
    generalize fa_first (zfl (zTbe T i) pt yr) 61 = k at h hk
    refine ⟨a, b, ?_⟩
    unfold p_X5_need_b2 p_X4_copyFrom
    rw [if_neg (show ¬ (18 : Int32) < nI i from nI_nlt (a := 18) (by omega) (by decide)), zbs]
    show (p_X4_yearsToFall (nI 60) (nI (t_d T)) (nI (t_ft T)) (nI pt) (nI (t_st T)) (nI i) (nI yr) (zct tr y7)).bind _ = _
    have h' : p_X4_yearsToFall (nI 60) (nI (t_d T)) (nI (t_ft T)) (nI pt) (nI (t_st T)) (nI i) (nI yr) (zct tr y7) = _ := h
    rw [h', zbs]
    dsimp only
    rw [nI_1]
    by_cases q : zneed T pt yr i = true
    · rw [if_pos q, if_pos (show zrs k 61 = (-4 : Int32) from (zrs_m4 (by decide)).mpr (hk.mpr (of_decide_eq_true q)))]; rfl
    · rw [if_neg q, if_neg (show ¬ zrs k 61 = (-4 : Int32) from fun z => q (decide_eq_true (hk.mp ((zrs_m4 (by decide)).mp z))))]; rfl
  have key := z_lp_first (body := p_X5_need_b2 (nI (t_d T)) (nI (t_ft T)) (nI pt) (nI (t_st T)) (nI (t_be T)) (nI yr) tr) (zneed T pt yr) 19 (fun i x => x.1 = nI i) (fun i r => r.1 = nI i) (fun _ => True) 1000 ((0 : Int32), x1, x2, x3, x4, x5, x6, x7)
    (fun i x hi hx hP => by
      obtain ⟨a, b, h⟩ := one i x hi hx
      rw [if_neg (by rw [hP]; decide)] at h
      exact ⟨_, h, rfl⟩)
    (fun i x hi hx hP => by
      obtain ⟨a, b, h⟩ := one i x hi hx
      rw [if_pos hP] at h
      exact ⟨_, h, rfl⟩)
    (fun x hx => by
      refine ⟨(x.2.1, x.2.2.1, x.2.2.2.1, x.2.2.2.2.1, x.2.2.2.2.2.1, x.2.2.2.2.2.2.1, x.2.2.2.2.2.2.2), ?_, trivial⟩
      unfold p_X5_need_b2
      rw [if_pos (by rw [hx]; decide)])
    rfl (by decide)
  unfold p_X5_need
  rcases key with ⟨c, r, h1, h2⟩ | ⟨c, r, h1, -⟩
  · rw [h1, zbs, zel, zrs_lt c]
    exact ⟨r.2, by rw [← h2]⟩
  · rw [h1, zbs, zer, zrs_ge c]
    exact ⟨_, rfl⟩
theorem b_behind (hV : zV T) {g : Nat → Int32} (hM : zM T g 130 (-4) pt yr) (hlo : zLo f g) (hp : pt < 100) (hy : yr ≤ 999) : ∃ o, p_X6_isFallenBehind (130 : Int32) (-4) g = some o ∧ o.1 = (if zgl T pt yr 60 ≤ t_be T then (0 : Int32) else 1) ∧ zLo f o.2.2.2.2 := by
  have hgo : p_X6_yearsGo (130 : Int32) (60 : Int32) (-4) g = _ := b_go (pg := 130) (n := 60) hV (Or.inr rfl) hM hp (by omega) (by decide)
  have hgl := zgl_le hV (yr := yr) hp 60
  have hb := hV.2.2.2.1
  have h24 : z_get (zyr (zcp g 130 104) 104 (zps T pt yr 60) (yr + 60)) 156 ((130 : Int32) + (24 : Int32)) = some (g 154) := by
    rw [z_get_e 154 (show (130 : Int32) + (24 : Int32) = nI 154 from rfl) (by decide) (by decide), zyr_out (by omega), zcp_out (by omega)]
  have e : g 154 + 9 = nI (t_be T) := hM.2.2.2.2.1
  unfold p_X6_isFallenBehind
  rw [hgo, zbs]
  dsimp only
  rw [h24, zbs, e]
  by_cases q : zgl T pt yr 60 ≤ t_be T
  · rw [if_pos (nI_le q (by omega)), if_pos q]
    exact ⟨_, rfl, rfl, zLo_y (zLo_c hlo (by decide)) (by decide)⟩
  · rw [if_neg (nI_nle' q (by omega)), if_neg q]
    exact ⟨_, rfl, rfl, zLo_y (zLo_c hlo (by decide)) (by decide)⟩
theorem b_need (hV : zV T) (hM : zM T f 0 (-4) pt yr) (hp : pt < 100) (hy : yr ≤ 999) (x1 x2 x3 : Int32) : ∃ j, p_X6_need (-4) x1 x2 x3 f = some (zrs (fa_first (zneed T pt yr) 19) 19, j) ∧ zLo f j.2.2.2 := by
  have one : ∀ (i : Nat) (x : Int32 × Int32 × Int32 × Int32 × (Nat → Int32)), i < 19 → x.1 = nI i ∧ zLo f x.2.2.2.2 → ∃ o : Int32 × Int32 × Int32 × Int32 × (Nat → Int32), zLo f o.2.2.2.2 ∧ p_X6_need_b2 (-4) x = if zneed T pt yr i = true then some (.inl (.inl (nI i, o.2.1, o.2.2.1, o.2.2.2.1, o.2.2.2.2))) else some (.inr (nI (i + 1), o.2.1, o.2.2.1, o.2.2.2.1, o.2.2.2.2)) := by
    rintro i ⟨v, y1, y2, y3, g⟩ hi ⟨hx, hlo⟩
    have hx' : v = nI i := hx
    subst hx'
    have hlo' : zLo f g := hlo
    have hM2 : zM (zTbe T i) (upd (zcp g 0 130) (130 + 24) (nI i - 9)) 130 (-4) pt yr := zM_be (zM_cp hV.1 (zLo_M hV.1 hlo' hM)) hV.1
    obtain ⟨o, h1, h2, h3⟩ := b_behind (zV_be hV (by omega)) hM2 (zLo_u (zLo_c hlo' (by decide)) (by decide)) hp hy
    refine ⟨o, h3, ?_⟩
    unfold p_X6_need_b2
    rw [if_neg (show ¬ (18 : Int32) < nI i from nI_nlt (a := 18) (by omega) (by decide)), b_cp130, zbs]
    show (z_set (zcp g 0 130) 156 (154 : Int32) (nI i - 9)).bind _ = _
    rw [z_set_e 154 (show (154 : Int32) = nI 154 from rfl) (by decide) (by decide), zbs, h1, zbs, h2]
    dsimp only
    rw [nI_1]
    by_cases q : zgl (zTbe T i) pt yr 60 ≤ i
    · rw [if_pos q, if_pos rfl, if_pos (show zneed T pt yr i = true from decide_eq_true q)]
    · rw [if_neg q, if_neg (show ¬ (1 : Int32) = 0 by decide), if_neg (show ¬ zneed T pt yr i = true from fun z => q (of_decide_eq_true z))]
  have key := z_lp_first (body := p_X6_need_b2 (-4)) (zneed T pt yr) 19 (fun i x => x.1 = nI i ∧ zLo f x.2.2.2.2) (fun i r => r.1 = nI i ∧ zLo f r.2.2.2.2) (fun r => zLo f r.2.2.2) 1000 ((0 : Int32), x1, x2, x3, f)
    (fun i x hi hx hP => by
      obtain ⟨o, h0, h⟩ := one i x hi hx
      rw [if_neg (by rw [hP]; decide)] at h
      exact ⟨_, h, rfl, h0⟩)
    (fun i x hi hx hP => by
      obtain ⟨o, h0, h⟩ := one i x hi hx
      rw [if_pos hP] at h
      exact ⟨_, h, rfl, h0⟩)
    (fun x hx => by
      refine ⟨(x.2.1, x.2.2.1, x.2.2.2.1, x.2.2.2.2), ?_, hx.2⟩
      unfold p_X6_need_b2
      rw [if_pos (by rw [hx.1]; decide)])
    ⟨rfl, zLo_r f⟩ (by decide)
  unfold p_X6_need
  rcases key with ⟨c, r, h1, h2, h3⟩ | ⟨c, r, h1, h3⟩
  · rw [h1, zbs, zel, zrs_lt c]
    exact ⟨r.2, by rw [← h2], h3⟩
  · rw [h1, zbs, zer, zrs_ge c]
    exact ⟨_, rfl, h3⟩
end ZN
