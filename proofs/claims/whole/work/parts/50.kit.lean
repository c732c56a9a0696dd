/-! PURE ROWS: numbers, places, loops -/
theorem zbs {α β : Type} {a : α} {f : α → Option β} : (some a).bind f = f a := rfl
theorem zel {α β γ : Type} {f : α → γ} {g : β → γ} {a : α} : Sum.elim f g (Sum.inl a) = f a := rfl
theorem zer {α β γ : Type} {f : α → γ} {g : β → γ} {b : β} : Sum.elim f g (Sum.inr b) = g b := rfl
theorem z_ok_n {i n : Nat} (h : i < n) (hn : n < 2 ^ 31) : z_ok (nI i) n = true := decide_eq_true (show ¬ (nI i < 0 ∨ n ≤ (nI i).toNatClampNeg) from vp_in_nI h hn)
theorem z_get_n {α : Type} {f : Nat → α} {i n : Nat} (h : i < n) (hn : n < 2 ^ 31) : z_get f n (nI i) = some (f i) := by
  rw [z_get, if_pos (z_ok_n h hn), nI_clamp (by omega)]
theorem z_set_n {f : Nat → Int32} {i n : Nat} {x : Int32} (h : i < n) (hn : n < 2 ^ 31) : z_set f n (nI i) x = some (upd f i x) := by
  rw [z_set, if_pos (z_ok_n h hn), nI_clamp (by omega)]
theorem z_setL_n {f : Nat → Int64} {i n : Nat} {x : Int64} (h : i < n) (hn : n < 2 ^ 31) : z_setL f n (nI i) x = some (vp_updL f i x) := by
  rw [z_setL, if_pos (z_ok_n h hn), nI_clamp (by omega)]
/-- the place as an expression -/
theorem z_get_e {α : Type} {f : Nat → α} {x : Int32} {n : Nat} (i : Nat) (e : x = nI i) (h : i < n) (hn : n < 2 ^ 31) : z_get f n x = some (f i) := by rw [e]; exact z_get_n h hn
theorem z_set_e {f : Nat → Int32} {x v : Int32} {n : Nat} (i : Nat) (e : x = nI i) (h : i < n) (hn : n < 2 ^ 31) : z_set f n x v = some (upd f i v) := by rw [e]; exact z_set_n h hn
theorem z_lp_run {σ ρ : Type} {body : σ → Option (ρ ⊕ σ)} {r : ρ} : ∀ (N : Nat) (f : Nat → σ) (fuel : Nat), (∀ i, i < N → body (f i) = some (.inr (f (i + 1)))) → body (f N) = some (.inl r) → N < fuel → z_lp body fuel (f 0) = some r
  | 0, f, fuel, _, he, hf => by
    obtain ⟨m, rfl⟩ : ∃ m, fuel = m + 1 := ⟨fuel - 1, by omega⟩
    rw [z_lp, he]
  | N + 1, f, fuel, hs, he, hf => by
    obtain ⟨m, rfl⟩ : ∃ m, fuel = m + 1 := ⟨fuel - 1, by omega⟩
    rw [z_lp, hs 0 (by omega)]
    exact z_lp_run N (fun i => f (i + 1)) m (fun i hi => hs (i + 1) (by omega)) he (by omega)
theorem z_div_n {a b : Nat} (ha : a < 2 ^ 31) (h0 : 0 < b) (hb : b < 2 ^ 31) : z_div (nI a) (nI b) = some (nI (a / b)) := by
  have h : ¬ nI b = 0 := nI_ne0 h0 hb
  rw [z_div, if_neg h, pk_div ha h0 hb]
/-! literals as nI -/
theorem zi0 : (0 : Int32) = nI 0 := rfl
theorem zi1 : (1 : Int32) = nI 1 := rfl
theorem zi2 : (2 : Int32) = nI 2 := rfl
theorem zi3 : (3 : Int32) = nI 3 := rfl
theorem zi4 : (4 : Int32) = nI 4 := rfl
theorem zi5 : (5 : Int32) = nI 5 := rfl
theorem zi10 : (10 : Int32) = nI 10 := rfl
theorem zi15 : (15 : Int32) = nI 15 := rfl
theorem zi20 : (20 : Int32) = nI 20 := rfl
theorem zi21 : (21 : Int32) = nI 21 := rfl
theorem zi22 : (22 : Int32) = nI 22 := rfl
theorem zi23 : (23 : Int32) = nI 23 := rfl
theorem zi24 : (24 : Int32) = nI 24 := rfl
theorem zi25 : (25 : Int32) = nI 25 := rfl
theorem zi60 : (60 : Int32) = nI 60 := rfl
theorem zn_div10 {a : Nat} (h : a < 2 ^ 31) : nI a / (10 : Int32) = nI (a / 10) := pk_div (d := 10) h (by decide) (by decide)
theorem zn_rem10 {a : Nat} (h : a < 2 ^ 31) : nI a - nI (a / 10) * (10 : Int32) = nI (a % 10) := by
  have q := pk_rem (a := a) (d := 10) h (by decide) (by decide)
  rw [pk_div (d := 10) h (by decide) (by decide)] at q
  exact q
theorem nI_m4 {a : Nat} (h : a < 2 ^ 31) : ¬ nI a = (-4 : Int32) := by
  intro q
  have h2 : (nI a).toInt = (-4 : Int32).toInt := by rw [q]
  rw [nI_toInt h] at h2
  have h3 : (-4 : Int32).toInt = -4 := by decide
  omega
theorem fa_upd_same' {f : Nat → Int32} {i : Nat} {x : Int32} (h : f i = x) : upd f i x = f := by
  funext j
  unfold upd
  split
  · rename_i e; rw [e, h]
  · rfl
/-! out of the kit's NUMBERS.to-paste: the first of -/
def fa_first (p : Nat → Bool) : Nat → Nat
  | 0 => 0
  | n + 1 => if fa_first p n < n then fa_first p n else if p n then n else n + 1
theorem fa_first_le (p : Nat → Bool) : ∀ n, fa_first p n ≤ n
  | 0 => Nat.le_refl 0
  | n + 1 => by
    have ih := fa_first_le p n
    unfold fa_first
    split
    · omega
    · split
      · omega
      · omega
theorem fa_first_no (p : Nat → Bool) : ∀ n k, k < fa_first p n → p k = false
  | 0, k, h => absurd h (Nat.not_lt_zero k)
  | n + 1, k, h => by
    have ih := fa_first_no p n
    have hl := fa_first_le p n
    unfold fa_first at h
    split at h
    · exact ih k h
    · rename_i h1
      split at h
      · exact ih k (by omega)
      · rename_i h2
        by_cases e : k = n
        · subst e
          exact Bool.eq_false_iff.mpr h2
        · exact ih k (by omega)
theorem fa_first_yes (p : Nat → Bool) : ∀ n, fa_first p n < n → p (fa_first p n) = true
  | 0, h => absurd h (Nat.not_lt_zero _)
  | n + 1, h => by
    have ih := fa_first_yes p n
    have hl := fa_first_le p n
    unfold fa_first at h ⊢
    split at h
    · rename_i h1
      rw [if_pos h1]
      exact ih h1
    · rename_i h1
      rw [if_neg h1]
      split at h
      · rename_i h2
        rw [if_pos h2]
        exact h2
      · omega
theorem nI_nle' {a b : Nat} (h : ¬ a ≤ b) (ha : a < 2 ^ 31) : ¬ nI a ≤ nI b := nI_ge (by omega) ha
theorem nI_nlt' {a b : Nat} (h : ¬ a < b) (ha : a < 2 ^ 31) : ¬ nI a < nI b := nI_nlt (by omega) ha
theorem nI_ne' {a b : Nat} (h : ¬ a = b) (ha : a < 2 ^ 31) (hb : b < 2 ^ 31) : ¬ nI a = nI b := fun q => h ((nI_eq ha hb).mp q)
