/-! the words of the nest: a program out of the Statement -/
def znw : List Cond := [.fieldLinkNest RX5 97 "SpireLean$Town" "draws" "I" "SpireLean", .fieldLinkNest RX3 80 "SpireLean$Town" "foot" "I" "SpireLean", .fieldLinkNest RX5 103 "SpireLean$Town" "foot" "I" "SpireLean", .fieldLinkNest RX0 22 "SpireLean$Town" "point" "I" "SpireLean", .fieldLinkNest RX2 26 "SpireLean$Town" "point" "I" "SpireLean", .fieldLinkNest RX3 83 "SpireLean$Town" "point" "I" "SpireLean", .fieldLinkNest RX5 106 "SpireLean$Town" "point" "I" "SpireLean", .fieldLinkNest RX3 86 "SpireLean$Town" "stiff" "I" "SpireLean", .fieldLinkNest RX5 123 "SpireLean$Town" "stiff" "I" "SpireLean", .fieldLinkNest RX3 89 "SpireLean$Town" "bears" "I" "SpireLean", .fieldLinkNest RX5 126 "SpireLean$Town" "bears" "I" "SpireLean", .fieldLinkNest RX0 36 "SpireLean$Town" "year" "I" "SpireLean", .fieldLinkNest RX5 100 "SpireLean$Town" "year" "I" "SpireLean", .fieldLinkNest RX5 70 "SpireLean$Tape" "length" "I" "SpireLean", .fieldLinkNest RX5 81 "SpireLean$Tape" "fault" "I" "SpireLean", .fieldLinkNest RX5 87 "SpireLean$Tape" "faultPlace" "I" "SpireLean", .fieldLinkNest RX5 94 "SpireLean$Sightings" "size" "I" "SpireLean", .fieldLinkNest RX5 219 "SpireLean$Odds" "weights" "[J" "SpireLean", .fieldLinkNest RX5 223 "SpireLean$Odds" "whole" "J" "SpireLean", .fieldLinkNest RX5 283 "SpireLean$Sheet" "cells" "[I" "SpireLean", .fieldLinkNest RX5 271 "SpireLean$Sheet" "lane" "I" "SpireLean", .fieldLinkNest RX5 298 "SpireLean$Sheet" "size" "I" "SpireLean", .fieldLinkNest RX3 58 "SpireLean" "LEAST" "[I" "SpireLean", .fieldLinkNest RX3 62 "SpireLean" "MOST" "[I" "SpireLean", .methodLinkNest RX5 9 yX4_init "SpireLean", .methodLinkNest RX5 29 yX3_init "SpireLean", .methodLinkNest RX5 36 yX2_init "SpireLean", .methodLinkNest RX5 43 yX0_init "SpireLean", .methodLinkNest RX5 61 yX1_init "SpireLean", .methodLinkNest RX5 66 yX3_append "SpireLean", .methodLinkNest RX5 74 yX4_clear "SpireLean", .methodLinkNest RX5 77 yX3_tellTo "SpireLean", .methodLinkNest RX3 52 yX4_isFull "SpireLean", .methodLinkNest RX3 95 yX5_within "SpireLean", .methodLinkNest RX3 72 yX4_addDraw "SpireLean", .methodLinkNest RX5 90 yX4_copyFrom "SpireLean", .methodLinkNest RX5 109 yX4_lean "SpireLean", .methodLinkNest RX4 55 yX5_far "SpireLean", .methodLinkNest RX5 113 yX4_isFallen "SpireLean", .methodLinkNest RX5 117 yX4_holder "SpireLean", .methodLinkNest RX5 120 yX4_pullBack "SpireLean", .methodLinkNest RX5 129 yX4_hasDraw "SpireLean", .methodLinkNest RX5 133 yX4_trait "SpireLean", .methodLinkNest RX5 137 yX4_strength "SpireLean", .methodLinkNest RX5 140 yX4_force "SpireLean", .methodLinkNest RX5 143 yX4_gap "SpireLean", .methodLinkNest RX5 150 yX4_setTrait "SpireLean", .methodLinkNest RX5 157 yX4_isFull "SpireLean", .methodLinkNest RX5 160 yX4_addDraw "SpireLean", .methodLinkNest RX5 164 yX4_passYears "SpireLean", .methodLinkNest RX4 80 yX5_sign "SpireLean", .methodLinkNest RX5 168 yX4_greatestLean "SpireLean", .methodLinkNest RX5 171 yX4_movesIn "SpireLean", .methodLinkNest RX5 174 yX4_holdersIn "SpireLean", .methodLinkNest RX5 177 yX4_yearsToFall "SpireLean", .methodLinkNest RX5 180 yX4_yearsTo "SpireLean", .methodLinkNest RX5 188 yX4_yearsHeldBy "SpireLean", .methodLinkNest RX5 195 yX4_passYear "SpireLean", .methodLinkNest RX5 215 yX0_spread "SpireLean", .methodLinkNest RX0 41 yX4_holder "SpireLean", .methodLinkNest RX0 45 yX4_nextPoint "SpireLean", .methodLinkNest RX5 227 yX0_leanTotal "SpireLean", .methodLinkNest RX0 55 yX5_far "SpireLean", .methodLinkNest RX5 231 yX2_add "SpireLean", .methodLinkNest RX5 237 yX2_fits "SpireLean", .methodLinkNest RX2 35 yX4_passYear "SpireLean", .methodLinkNest RX5 268 yX1_renew "SpireLean", .methodLinkNest RX5 274 yX1_faultOf "SpireLean", .methodLinkNest RX5 277 yX1_write "SpireLean", .methodLinkNest RX5 280 yX1_faultOfPair "SpireLean", .methodLinkNest RX5 295 yX1_isNothing "SpireLean", .methodLinkNest RX5 299 yX4_pullOfAll "SpireLean", .methodLinkNest RX5 302 yX4_drawing "SpireLean"]
def znk (w : Cond) : Prop := (∃ a i b n d h, w = .fieldLinkNest a i b n d h) ∨ (∃ a i x h, w = .methodLinkNest a i x h)
theorem znw_k : ∀ w ∈ znw, znk w := List.forall_mem_cons.mpr ⟨Or.inl ⟨_, _, _, _, _, _, rfl⟩, List.forall_mem_cons.mpr ⟨Or.inl ⟨_, _, _, _, _, _, rfl⟩, List.forall_mem_cons.mpr ⟨Or.inl ⟨_, _, _, _, _, _, rfl⟩, List.forall_mem_cons.mpr ⟨Or.inl ⟨_, _, _, _, _, _, rfl⟩, List.forall_mem_cons.mpr ⟨Or.inl ⟨_, _, _, _, _, _, rfl⟩, List.forall_mem_cons.mpr ⟨Or.inl ⟨_, _, _, _, _, _, rfl⟩, List.forall_mem_cons.mpr ⟨Or.inl ⟨_, _, _, _, _, _, rfl⟩, List.forall_mem_cons.mpr ⟨Or.inl ⟨_, _, _, _, _, _, rfl⟩, List.forall_mem_cons.mpr ⟨Or.inl ⟨_, _, _, _, _, _, rfl⟩, List.forall_mem_cons.mpr ⟨Or.inl ⟨_, _, _, _, _, _, rfl⟩, List.forall_mem_cons.mpr ⟨Or.inl ⟨_, _, _, _, _, _, rfl⟩, List.forall_mem_cons.mpr ⟨Or.inl ⟨_, _, _, _, _, _, rfl⟩, List.forall_mem_cons.mpr ⟨Or.inl ⟨_, _, _, _, _, _, rfl⟩, List.forall_mem_cons.mpr ⟨Or.inl ⟨_, _, _, _, _, _, rfl⟩, List.forall_mem_cons.mpr ⟨Or.inl ⟨_, _, _, _, _, _, rfl⟩, List.forall_mem_cons.mpr ⟨Or.inl ⟨_, _, _, _, _, _, rfl⟩, List.forall_mem_cons.mpr ⟨Or.inl ⟨_, _, _, _, _, _, rfl⟩, List.forall_mem_cons.mpr ⟨Or.inl ⟨_, _, _, _, _, _, rfl⟩, List.forall_mem_cons.mpr ⟨Or.inl ⟨_, _, _, _, _, _, rfl⟩, List.forall_mem_cons.mpr ⟨Or.inl ⟨_, _, _, _, _, _, rfl⟩, List.forall_mem_cons.mpr ⟨Or.inl ⟨_, _, _, _, _, _, rfl⟩, List.forall_mem_cons.mpr ⟨Or.inl ⟨_, _, _, _, _, _, rfl⟩, List.forall_mem_cons.mpr ⟨Or.inl ⟨_, _, _, _, _, _, rfl⟩, List.forall_mem_cons.mpr ⟨Or.inl ⟨_, _, _, _, _, _, rfl⟩, List.forall_mem_cons.mpr ⟨Or.inr ⟨_, _, _, _, rfl⟩, List.forall_mem_cons.mpr ⟨Or.inr ⟨_, _, _, _, rfl⟩, List.forall_mem_cons.mpr ⟨Or.inr ⟨_, _, _, _, rfl⟩, List.forall_mem_cons.mpr ⟨Or.inr ⟨_, _, _, _, rfl⟩, List.forall_mem_cons.mpr ⟨Or.inr ⟨_, _, _, _, rfl⟩, List.forall_mem_cons.mpr ⟨Or.inr ⟨_, _, _, _, rfl⟩, List.forall_mem_cons.mpr ⟨Or.inr ⟨_, _, _, _, rfl⟩, List.forall_mem_cons.mpr ⟨Or.inr ⟨_, _, _, _, rfl⟩, List.forall_mem_cons.mpr ⟨Or.inr ⟨_, _, _, _, rfl⟩, List.forall_mem_cons.mpr ⟨Or.inr ⟨_, _, _, _, rfl⟩, List.forall_mem_cons.mpr ⟨Or.inr ⟨_, _, _, _, rfl⟩, List.forall_mem_cons.mpr ⟨Or.inr ⟨_, _, _, _, rfl⟩, List.forall_mem_cons.mpr ⟨Or.inr ⟨_, _, _, _, rfl⟩, List.forall_mem_cons.mpr ⟨Or.inr ⟨_, _, _, _, rfl⟩, List.forall_mem_cons.mpr ⟨Or.inr ⟨_, _, _, _, rfl⟩, List.forall_mem_cons.mpr ⟨Or.inr ⟨_, _, _, _, rfl⟩, List.forall_mem_cons.mpr ⟨Or.inr ⟨_, _, _, _, rfl⟩, List.forall_mem_cons.mpr ⟨Or.inr ⟨_, _, _, _, rfl⟩, List.forall_mem_cons.mpr ⟨Or.inr ⟨_, _, _, _, rfl⟩, List.forall_mem_cons.mpr ⟨Or.inr ⟨_, _, _, _, rfl⟩, List.forall_mem_cons.mpr ⟨Or.inr ⟨_, _, _, _, rfl⟩, List.forall_mem_cons.mpr ⟨Or.inr ⟨_, _, _, _, rfl⟩, List.forall_mem_cons.mpr ⟨Or.inr ⟨_, _, _, _, rfl⟩, List.forall_mem_cons.mpr ⟨Or.inr ⟨_, _, _, _, rfl⟩, List.forall_mem_cons.mpr ⟨Or.inr ⟨_, _, _, _, rfl⟩, List.forall_mem_cons.mpr ⟨Or.inr ⟨_, _, _, _, rfl⟩, List.forall_mem_cons.mpr ⟨Or.inr ⟨_, _, _, _, rfl⟩, List.forall_mem_cons.mpr ⟨Or.inr ⟨_, _, _, _, rfl⟩, List.forall_mem_cons.mpr ⟨Or.inr ⟨_, _, _, _, rfl⟩, List.forall_mem_cons.mpr ⟨Or.inr ⟨_, _, _, _, rfl⟩, List.forall_mem_cons.mpr ⟨Or.inr ⟨_, _, _, _, rfl⟩, List.forall_mem_cons.mpr ⟨Or.inr ⟨_, _, _, _, rfl⟩, List.forall_mem_cons.mpr ⟨Or.inr ⟨_, _, _, _, rfl⟩, List.forall_mem_cons.mpr ⟨Or.inr ⟨_, _, _, _, rfl⟩, List.forall_mem_cons.mpr ⟨Or.inr ⟨_, _, _, _, rfl⟩, List.forall_mem_cons.mpr ⟨Or.inr ⟨_, _, _, _, rfl⟩, List.forall_mem_cons.mpr ⟨Or.inr ⟨_, _, _, _, rfl⟩, List.forall_mem_cons.mpr ⟨Or.inr ⟨_, _, _, _, rfl⟩, List.forall_mem_cons.mpr ⟨Or.inr ⟨_, _, _, _, rfl⟩, List.forall_mem_cons.mpr ⟨Or.inr ⟨_, _, _, _, rfl⟩, List.forall_mem_cons.mpr ⟨Or.inr ⟨_, _, _, _, rfl⟩, List.forall_mem_cons.mpr ⟨Or.inr ⟨_, _, _, _, rfl⟩, List.forall_mem_cons.mpr ⟨Or.inr ⟨_, _, _, _, rfl⟩, List.forall_mem_cons.mpr ⟨Or.inr ⟨_, _, _, _, rfl⟩, List.forall_mem_cons.mpr ⟨Or.inr ⟨_, _, _, _, rfl⟩, List.forall_mem_cons.mpr ⟨Or.inr ⟨_, _, _, _, rfl⟩, List.forall_mem_cons.mpr ⟨Or.inr ⟨_, _, _, _, rfl⟩, List.forall_mem_cons.mpr ⟨Or.inr ⟨_, _, _, _, rfl⟩, List.forall_mem_cons.mpr ⟨Or.inr ⟨_, _, _, _, rfl⟩, fun _ h => absurd h List.not_mem_nil⟩⟩⟩⟩⟩⟩⟩⟩⟩⟩⟩⟩⟩⟩⟩⟩⟩⟩⟩⟩⟩⟩⟩⟩⟩⟩⟩⟩⟩⟩⟩⟩⟩⟩⟩⟩⟩⟩⟩⟩⟩⟩⟩⟩⟩⟩⟩⟩⟩⟩⟩⟩⟩⟩⟩⟩⟩⟩⟩⟩⟩⟩⟩⟩⟩⟩⟩⟩⟩⟩⟩⟩⟩
/-! BASE: contracts of one form (a world of cells of fixed addresses, a pure answer), calls by them, loops -/
theorem zb {α β : Type} {x : Option α} {f : α → Option β} {b : β} (h : x.bind f = some b) : ∃ a, x = some a ∧ f a = some b := by
  cases x with
  | none => cases h
  | some a => exact ⟨a, rfl, h⟩
theorem zs {α : Type} {x y : α} (h : some x = some y) : x = y := Option.some.inj h
theorem zit {α : Type} {c : Prop} [Decidable c] {a b o : α} (hc : c) (h : (if c then a else b) = o) : a = o := by
  rw [if_pos hc] at h; exact h
theorem zif {α : Type} {c : Prop} [Decidable c] {a b o : α} (hc : ¬ c) (h : (if c then a else b) = o) : b = o := by
  rw [if_neg hc] at h; exact h
/-- a place of a row of n -/
def z_ok (i : Int32) (n : Nat) : Bool := decide (¬ (i < 0 ∨ n ≤ i.toNatClampNeg))
theorem z_ok_in {i : Int32} {n : Nat} (h : z_ok i n = true) : vp_in i n := (of_decide_eq_true h : ¬ (i < 0 ∨ n ≤ i.toNatClampNeg))
def z_get {α : Type} (f : Nat → α) (n : Nat) (i : Int32) : Option α := if z_ok i n = true then some (f i.toNatClampNeg) else none
theorem z_getS {α : Type} {f : Nat → α} {n : Nat} {i : Int32} {v : α} (h : z_get f n i = some v) : vp_in i n ∧ f i.toNatClampNeg = v := by
  by_cases c : z_ok i n = true
  · rw [z_get, if_pos c] at h
    exact ⟨z_ok_in c, zs h⟩
  · rw [z_get, if_neg c] at h
    cases h
def z_set (f : Nat → Int32) (n : Nat) (i x : Int32) : Option (Nat → Int32) := if z_ok i n = true then some (upd f i.toNatClampNeg x) else none
theorem z_setS {f g : Nat → Int32} {n : Nat} {i x : Int32} (h : z_set f n i x = some g) : vp_in i n ∧ upd f i.toNatClampNeg x = g := by
  by_cases c : z_ok i n = true
  · rw [z_set, if_pos c] at h
    exact ⟨z_ok_in c, zs h⟩
  · rw [z_set, if_neg c] at h
    cases h
def z_setL (f : Nat → Int64) (n : Nat) (i : Int32) (x : Int64) : Option (Nat → Int64) := if z_ok i n = true then some (vp_updL f i.toNatClampNeg x) else none
theorem z_setLS {f g : Nat → Int64} {n : Nat} {i : Int32} {x : Int64} (h : z_setL f n i x = some g) : vp_in i n ∧ vp_updL f i.toNatClampNeg x = g := by
  by_cases c : z_ok i n = true
  · rw [z_setL, if_pos c] at h
    exact ⟨z_ok_in c, zs h⟩
  · rw [z_setL, if_neg c] at h
    cases h
def z_div (x y : Int32) : Option Int32 := if y = 0 then none else some (x / y)
theorem z_divS {x y v : Int32} (h : z_div x y = some v) : ¬ y = 0 ∧ x / y = v := by
  by_cases c : y = 0
  · rw [z_div, if_pos c] at h; cases h
  · rw [z_div, if_neg c] at h; exact ⟨c, zs h⟩
def z_rem (x y : Int32) : Option Int32 := if y = 0 then none else some (x - x / y * y)
theorem z_remS {x y v : Int32} (h : z_rem x y = some v) : ¬ y = 0 ∧ x - x / y * y = v := by
  by_cases c : y = 0
  · rw [z_rem, if_pos c] at h; cases h
  · rw [z_rem, if_neg c] at h; exact ⟨c, zs h⟩
def z_divL (x y : Int64) : Option Int64 := if y = 0 then none else some (x / y)
theorem z_divLS {x y v : Int64} (h : z_divL x y = some v) : ¬ y = 0 ∧ x / y = v := by
  by_cases c : y = 0
  · rw [z_divL, if_pos c] at h; cases h
  · rw [z_divL, if_neg c] at h; exact ⟨c, zs h⟩
def z_remL (x y : Int64) : Option Int64 := if y = 0 then none else some (x - x / y * y)
theorem z_remLS {x y v : Int64} (h : z_remL x y = some v) : ¬ y = 0 ∧ x - x / y * y = v := by
  by_cases c : y = 0
  · rw [z_remL, if_pos c] at h; cases h
  · rw [z_remL, if_neg c] at h; exact ⟨c, zs h⟩
/-- an answer that is 0 or 1 -/
def z_bit (x : Int32) : Option Int32 := if x = 0 ∨ x = 1 then some x else none
theorem z_bitS {x v : Int32} (h : z_bit x = some v) : (v = 0 ∨ v = 1) ∧ x = v := by
  by_cases c : x = 0 ∨ x = 1
  · rw [z_bit, if_pos c] at h
    cases zs h
    exact ⟨c, rfl⟩
  · rw [z_bit, if_neg c] at h; cases h
/-- a loop: at most n rounds -/
def z_lp {σ ρ : Type} (body : σ → Option (ρ ⊕ σ)) : Nat → σ → Option ρ
  | 0, _ => none
  | n + 1, x => match body x with
    | none => none
    | some (.inl r) => some r
    | some (.inr y) => z_lp body n y
theorem z_lpW {σ ρ : Type} {body : σ → Option (ρ ⊕ σ)} {Wh : σ → Prop} {e : ρ} (st : ∀ x o, body x = some o → (∀ y, .inr y = o → Wh y) → (∀ r, .inl r = o → r = e) → Wh x) : ∀ n x, z_lp body n x = some e → Wh x
  | 0, x, h => by cases h
  | n + 1, x, h => by
    rw [z_lp] at h
    cases hb : body x with
    | none => rw [hb] at h; cases h
    | some o =>
      rw [hb] at h
      refine st x o hb (fun y hy => ?_) (fun r hr => ?_)
      · subst hy; exact z_lpW st n y h
      · subst hr; exact zs h
/-- the world w with cells put in -/
def zset (w : va_W) (ps : List (Nat × (Nat × va_E))) : va_W := ps.foldl (fun w p => w.set p.1 p.2) w
theorem zset_P {G : va_G} {cl : List vw_C} {H1 : Heap} : ∀ (ps : List (Nat × (Nat × va_E))) (w : va_W), (∀ (k : Nat) (q : Nat × va_E), w[k]? = some q → (∀ p ∈ ps, p.1 ≠ k) → va_at G cl q H1) → (∀ p ∈ ps, va_at G cl p.2 H1) → va_P G cl (zset w ps) H1
  | [], w, h, _ => fun k q hk => h k q hk (fun p hp => absurd hp List.not_mem_nil)
  | p :: ps, w, h, h2 => by
    show va_P G cl (zset (w.set p.1 p.2) ps) H1
    refine zset_P ps (w.set p.1 p.2) (fun k q hk hn => ?_) (fun p' hp' => h2 p' (List.mem_cons_of_mem _ hp'))
    by_cases e : p.1 = k
    · rw [List.getElem?_set, if_pos e] at hk
      by_cases c : p.1 < w.length
      · rw [if_pos c] at hk
        cases zs hk
        exact h2 p List.mem_cons_self
      · rw [if_neg c] at hk
        cases hk
    · rw [List.getElem?_set, if_neg e] at hk
      exact h k q hk (fun p' hp' => (List.mem_cons.mp hp').elim (fun e' => by rw [e']; exact e) (hn p'))
theorem z_join {G : va_G} {cl : List vw_C} {w wc wc' : va_W} {H H1 : Heap} {A : Nat → Prop} {is : List Nat} (hP : va_P G cl w H) (hD : va_D A w) (hC : is.map (fun i => w[i]?) = wc.map some) (hl : is.length = wc'.length) (hk : ∀ q : Nat, q < H.size → ¬ va_A wc H.size q → H1[q]? = H[q]?) (hP1 : va_P G cl wc' H1) : va_P G cl (zset w (is.zip wc')) H1 := by
  refine zset_P _ _ (fun k q hq hn => ?_) (fun p hp => ?_)
  · refine (hP k q hq).kept (hk q.1 (hP k q hq).lt (fun hA => ?_))
    rcases hA with ⟨j, e, hj⟩ | hge
    · have h1 : (wc.map some)[j]? = some (some (q.1, e)) := by rw [List.getElem?_map, hj]; rfl
      rw [← hC, List.getElem?_map] at h1
      cases hi : is[j]? with
      | none => rw [hi] at h1; cases h1
      | some i =>
        rw [hi] at h1
        have hw : w[i]? = some (q.1, e) := zs h1
        have hki : k = i := hD.1 k i q (q.1, e) hq hw rfl
        have hj2 : j < wc'.length := by rw [← hl]; exact (List.getElem?_eq_some_iff.mp hi).1
        obtain ⟨c, hc⟩ : ∃ c, wc'[j]? = some c := ⟨wc'[j], List.getElem?_eq_getElem hj2⟩
        have hz : (is.zip wc')[j]? = some (i, c) := by rw [List.getElem?_zip_eq_some]; exact ⟨hi, hc⟩
        exact hn (i, c) (List.mem_of_getElem? hz) hki.symm
    · exact absurd (hP k q hq).lt (Nat.not_lt.mpr hge)
  · obtain ⟨j, hj⟩ := List.getElem?_of_mem hp
    rw [List.getElem?_zip_eq_some] at hj
    exact hP1 j p.2 hj.2
theorem z_D {A : Nat → Prop} {w w2 : va_W} (hD : va_D A w) (h : w2.map (fun q => q.1) = w.map (fun q => q.1)) : va_D A w2 := by
  have key : ∀ (i : Nat) (p : Nat × va_E), w2[i]? = some p → ∃ q, w[i]? = some q ∧ q.1 = p.1 := by
    intro i p hp
    have h1 : (w2.map (fun q => q.1))[i]? = some p.1 := by rw [List.getElem?_map, hp]; rfl
    rw [h, List.getElem?_map] at h1
    cases hi : w[i]? with
    | none => rw [hi] at h1; cases h1
    | some q => rw [hi] at h1; exact ⟨q, rfl, zs h1⟩
  refine ⟨fun i j p q hp hq e => ?_, fun k q hk => ?_⟩
  · obtain ⟨p', hp', e1⟩ := key i p hp
    obtain ⟨q', hq', e2⟩ := key j q hq
    exact hD.1 i j p' q' hp' hq' (by rw [e1, e2, e])
  · obtain ⟨q', hq', e1⟩ := key k q hk
    rw [← e1]
    exact hD.2 k q' hq'
/-- the nest's words hold, and the two rows LEAST and MOST are there, outside A -/
def zgL : Nat → Int32 := fun k => if k = 1 then 1 else 0
def zgM : Nat → Int32 := fun k => if k = 0 then 3 else if k = 1 then 20 else if k = 2 then 99 else 60
def zsi (i : Nat) : Nat := ([131, 133, 135, 137, 139, 140, 141] : List Nat).getD i 0
def zst (i : Nat) : String := (["chimney", "market", "chapel", "dock", "foot", "stiff", "bears"] : List String).getD i ""
def zln : List Nat := [7, 6, 6, 4, 4, 5, 5]
def zby : List (List Int32) := [[99, 104, 105, 109, 110, 101, 121], [109, 97, 114, 107, 101, 116], [99, 104, 97, 112, 101, 108], [100, 111, 99, 107], [102, 111, 111, 116], [115, 116, 105, 102, 102], [98, 101, 97, 114, 115]]
def zE (tL tM : Nat) (sK sV : Nat → Nat) (A : Nat → Prop) (U : State) (H : Heap) : Prop := (∀ w ∈ znw, va_Nw w U) ∧ va_Z "SpireLean" "LEAST" "[I" (.ref tL) A U H ∧ va_Z "SpireLean" "MOST" "[I" (.ref tM) A U H ∧ va_T .int tL 4 (fun j => .int (zgL j)) A U H ∧ va_T .int tM 4 (fun j => .int (zgM j)) A U H ∧ (∀ i, i < 7 → vk_R "SpireLean$Tape" (zsi i) (zst i) (sK i) U) ∧ vk_S 7 zln zby sK sV A U H ∧ va_Z "java/lang/String" "COMPACT_STRINGS" "Z" (.int 1) A U H ∧ va_Zq "jdk/internal/util/Preconditions" "SIOOBE_FORMATTER" "Ljava/util/function/BiFunction;" A U H
theorem znw_warm {s U : State} (hW : s.WarmedH U.vm) : ∀ w ∈ znw, va_Nw w s → va_Nw w U := by
  intro w hw h
  rcases znw_k w hw with ⟨a, i, b, n, d, hh, rfl⟩ | ⟨a, i, x, hh, rfl⟩
  · exact va_Nw.warmF hW h
  · exact va_Nw.warmM hW h
theorem zE.go {tL tM : Nat} {sK sV : Nat → Nat} {A A1 : Nat → Prop} {s U : State} {H : Heap} {locs : List Loc} (h : zE tL tM sK sV A s s.heap) (hS : va_S A s.heap H locs) (hU : U.heap = H) (hW : s.WarmedH U.vm) (hF : ∀ q, A1 q → A q) : zE tL tM sK sV A1 U U.heap := by
  obtain ⟨h1, h2, h3, h4, h5, h6, h7, h8, h9⟩ := h
  rw [hU]
  exact ⟨fun w hw => znw_warm hW w hw (h1 w hw), ((h2.kept hS.2.1).moved hW.alike).narrow hF, ((h3.kept hS.2.1).moved hW.alike).narrow hF, ((h4.kept hS.2.1).moved hW.alike).narrow hF, ((h5.kept hS.2.1).moved hW.alike).narrow hF, fun i hi => (h6 i hi).warm hW, ((h7.kept hS.2.1).moved hW.alike).narrow hF, ((h8.kept hS.2.1).moved hW.alike).narrow hF, ((h9.kept hS.2.1).moved hW.alike).narrow hF⟩
theorem zE.call {tL tM : Nat} {sK sV : Nat → Nat} {A : Nat → Prop} {U : State} {H : Heap} (h : zE tL tM sK sV A U H) (g : JFrame) (mk : MethodId) (a : Array Value) : zE tL tM sK sV A (U.calling g mk a) H := by
  obtain ⟨h1, h2, h3, h4, h5, h6, h7, h8, h9⟩ := h
  refine ⟨fun w hw => ?_, h2.moved (Vm.Alike.refl U.vm), h3.moved (Vm.Alike.refl U.vm), h4.moved (Vm.Alike.refl U.vm), h5.moved (Vm.Alike.refl U.vm), fun i hi => (h6 i hi).same rfl, h7.moved (Vm.Alike.refl U.vm), h8.moved (Vm.Alike.refl U.vm), h9.moved (Vm.Alike.refl U.vm)⟩
  rcases znw_k w hw with ⟨a, i, b, n, d, hh, rfl⟩ | ⟨a, i, x, hh, rfl⟩
  · exact va_Nw.same (U := U.calling g mk _) rfl rfl (h1 _ hw)
  · exact va_Nw.same (U := U.calling g mk _) rfl rfl (h1 _ hw)
/-- the array classes -/
abbrev zT (k : Nat → ClassId) : List (ClassId × FieldType) := [(k 0, .int), (k 1, .byte), (k 2, .long), (k 3, .boolean), (k 4, .object "SpireLean$Town"), (k 5, .object "SpireLean$Sheet")]
abbrev zR (fr lo : Nat) : Room := { frames := fr, cells := 0, slots := 0, locals := lo }
def zB (G : va_G) (k : Nat → ClassId) (tL tM : Nat) (sK sV : Nat → Nat) (w : va_W) (sz : Nat) : State → Prop := fun U => U.heap.size = sz ∧ va_P G vwCl w U.heap ∧ va_K G vwCl (zT k) U ∧ va_D (fun _ => True) w ∧ zE tL tM sK sV (va_A w sz) U U.heap
abbrev zQi (G : va_G) (w w' : va_W) (r : Int32) (sz : Nat) : Array Value → State → Outcome → State → Prop := va_Qi (fun (r' : Int32) (_ : Unit) => r' = r) (fun _ t => va_P G vwCl w' t.heap) (va_A w sz)
abbrev zQl (G : va_G) (w w' : va_W) (r : Int64) (sz : Nat) : Array Value → State → Outcome → State → Prop := va_Ql (fun (r' : Int64) (_ : Unit) => r' = r) (fun _ t => va_P G vwCl w' t.heap) (va_A w sz)
abbrev zQv (G : va_G) (w w' : va_W) (sz : Nat) : Array Value → State → Outcome → State → Prop := va_Qv (fun (_ : Unit) => True) (fun _ t => va_P G vwCl w' t.heap) (va_A w sz)
abbrev zMi (l : Launch) (y : MethodName) (ws : List Cond) (fr lo : Nat) (G : va_G) (k : Nat → ClassId) (tL tM : Nat) (sK sV : Nat → Nat) (av : List Value) (w w' : va_W) (r : Int32) (sz : Nat) : Prop := Met l y ws (zR fr lo) (va_Pc av (zB G k tL tM sK sV w sz)) (zQi G w w' r sz) 0 0 (va_A w sz)
abbrev zMl (l : Launch) (y : MethodName) (ws : List Cond) (fr lo : Nat) (G : va_G) (k : Nat → ClassId) (tL tM : Nat) (sK sV : Nat → Nat) (av : List Value) (w w' : va_W) (r : Int64) (sz : Nat) : Prop := Met l y ws (zR fr lo) (va_Pc av (zB G k tL tM sK sV w sz)) (zQl G w w' r sz) 0 0 (va_A w sz)
abbrev zMv (l : Launch) (y : MethodName) (ws : List Cond) (fr lo : Nat) (G : va_G) (k : Nat → ClassId) (tL tM : Nat) (sK sV : Nat → Nat) (av : List Value) (w w' : va_W) (sz : Nat) : Prop := Met l y ws (zR fr lo) (va_Pc av (zB G k tL tM sK sV w sz)) (zQv G w w' sz) 0 0 (va_A w sz)
section ZG
variable {p : Program} {l : Launch} {e : Env} {R : Room} {s : State} {m : MethodId} {args : Array Value} {below : List Frame} {meth : Method} {c : Code} {Q : State → Prop}
/-- the machine at pc, over any heap that holds the world w -/
def zW (p : Program) (l : Launch) (e : Env) (R : Room) (s : State) (m : MethodId) (args : Array Value) (below : List Frame) (meth : Method) (c : Code) (Q : State → Prop) (nL : Nat) (A : Nat → Prop) (G : va_G) (w : va_W) (lv : List (Nat × Value)) (pc : Nat) (st : List Value) : Prop :=
  ∀ (H : Heap) (locs : List Loc) (ls : Array Slot), va_P G vwCl w H → va_D A w → va_S A s.heap H locs → lv_has ls nL lv → W p l e R s m args below meth c H locs 0 0 Q (F0 m pc ls st)
theorem z_blind {G : va_G} {k : Nat → ClassId} {tL tM : Nat} {sK sV : Nat → Nat} {w : va_W} {sz : Nat} {av : List Value} : FrameBlind (va_Pc av (zB G k tL tM sK sV w sz)) := by
  intro a U g mk q
  obtain ⟨q0, q1, qP, qK, qD, qE⟩ := q
  exact ⟨q0, q1, qP, va_K.moved (u := U) (U := U.calling g mk a) (Vm.Alike.refl U.vm) qK, qD, zE.call qE g mk a⟩
theorem z_pre {G : va_G} {k : Nat → ClassId} {tL tM : Nat} {sK sV : Nat → Nat} {w wc : va_W} {H : Heap} {locs : List Loc} {A : Nat → Prop} {is : List Nat} (hK : va_K G vwCl (zT k) s) (hE : zE tL tM sK sV A s s.heap) (hA : ∀ q, s.heap.size ≤ q → A q) (hP : va_P G vwCl w H) (hD : va_D A w) (hS : va_S A s.heap H locs) (hn : va_nd is = true) (hC : is.map (fun i => w[i]?) = wc.map some) (av : List Value) : ∀ U : State, U.heap = H → s.WarmedH U.vm → va_Pc av (zB G k tL tM sK sV wc H.size) av.toArray U := by
  intro U hU hW
  have hF := va_free hD hS hA is hC
  have hDc : va_D A wc := hD.sub is hn hC
  have hPc : va_P G vwCl wc H := by
    intro j q hj
    have h1 : (wc.map some)[j]? = some (some q) := by rw [List.getElem?_map, hj]; rfl
    rw [← hC, List.getElem?_map] at h1
    cases hi : is[j]? with
    | none => rw [hi] at h1; cases h1
    | some i => rw [hi] at h1; exact hP i q (zs h1)
  exact ⟨rfl, by rw [hU], by rw [hU]; exact hPc, va_K.moved hW.alike hK, hDc.weaken (fun _ _ _ _ => trivial), hE.go hS hU hW hF⟩
theorem z_preS {G : va_G} {k : Nat → ClassId} {tL tM : Nat} {sK sV : Nat → Nat} {w wc : va_W} {H : Heap} {locs : List Loc} {A : Nat → Prop} {av : List Value} (is : List Nat) (hK : va_K G vwCl (zT k) s) (hE : zE tL tM sK sV A s s.heap) (hA : ∀ q, s.heap.size ≤ q → A q) (hP : va_P G vwCl w H) (hD : va_D A w) (hS : va_S A s.heap H locs) (hn : va_nd is = true) (hC : is.map (fun i => w[i]?) = wc.map some) : PreS s H (va_Pc av (zB G k tL tM sK sV wc H.size)) av := ⟨z_blind, z_pre hK hE hA hP hD hS hn hC av⟩
theorem z_preV {G : va_G} {k : Nat → ClassId} {tL tM : Nat} {sK sV : Nat → Nat} {w wc : va_W} {H : Heap} {locs : List Loc} {A : Nat → Prop} {b : Nat} {As : List Value} {fs : List Value} {q : vw_C} (is : List Nat) (q0 ci : Nat) (hK : va_K G vwCl (zT k) s) (hE : zE tL tM sK sV A s s.heap) (hA : ∀ q, s.heap.size ≤ q → A q) (hP : va_P G vwCl w H) (hD : va_D A w) (hS : va_S A s.heap H locs) (hn : va_nd is = true) (hC : is.map (fun i => w[i]?) = wc.map some) (hc : vwCl[ci]? = some q) (he : w[q0]? = some (b, .inr (ci, fs))) : PreV s H q.1 b (va_Pc (.ref b :: As) (zB G k tL tM sK sV wc H.size)) As := ⟨z_blind, va_recv hK hP hc he, z_pre hK hE hA hP hD hS hn hC (.ref b :: As)⟩
theorem z_goi {G : va_G} {w wc wc' w2 : va_W} {H : Heap} {locs : List Loc} {A : Nat → Prop} {pc : Nat} {ls : Array Slot} {st0 rest : List Value} {a : Array Value} {r : Int32} (is : List Nat) (hr : va_Run p l e R s m args below meth c H locs 0 0 0 0 (F0 m pc ls st0) rest (zQi G wc wc' r H.size a) (va_A wc H.size)) (hA : ∀ q, s.heap.size ≤ q → A q) (hP : va_P G vwCl w H) (hD : va_D A w) (hS : va_S A s.heap H locs) (hC : is.map (fun i => w[i]?) = wc.map some) (hl : is.length = wc'.length) (h2 : zset w (is.zip wc') = w2) (hd : w2.map (fun q => q.1) = w.map (fun q => q.1))
    (kk : ∀ (H1 : Heap) (locs1 : List Loc), va_P G vwCl w2 H1 → va_D A w2 → va_S A s.heap H1 locs1 → W p l e R s m args below meth c H1 locs1 0 0 Q (F0 m (pc + 3) ls (.int r :: rest))) : W p l e R s m args below meth c H locs 0 0 Q (F0 m pc ls st0) := by
  have hF := va_free hD hS hA is hC
  refine va_calli hr hS (fun q _ h => hF q h) hF (fun r' u t H1 locs1 ht hvm hw hB hz hk hS1 => ?_)
  subst hw
  rw [ht] at hB
  have hP2 := z_join hP hD hC hl hk hB
  rw [h2] at hP2
  exact kk H1 locs1 hP2 (z_D hD hd) hS1
theorem z_gol {G : va_G} {w wc wc' w2 : va_W} {H : Heap} {locs : List Loc} {A : Nat → Prop} {pc : Nat} {ls : Array Slot} {st0 rest : List Value} {a : Array Value} {r : Int64} (is : List Nat) (hr : va_Run p l e R s m args below meth c H locs 0 0 0 0 (F0 m pc ls st0) rest (zQl G wc wc' r H.size a) (va_A wc H.size)) (hA : ∀ q, s.heap.size ≤ q → A q) (hP : va_P G vwCl w H) (hD : va_D A w) (hS : va_S A s.heap H locs) (hC : is.map (fun i => w[i]?) = wc.map some) (hl : is.length = wc'.length) (h2 : zset w (is.zip wc') = w2) (hd : w2.map (fun q => q.1) = w.map (fun q => q.1))
    (kk : ∀ (H1 : Heap) (locs1 : List Loc), va_P G vwCl w2 H1 → va_D A w2 → va_S A s.heap H1 locs1 → W p l e R s m args below meth c H1 locs1 0 0 Q (F0 m (pc + 3) ls (.long r :: rest))) : W p l e R s m args below meth c H locs 0 0 Q (F0 m pc ls st0) := by
  have hF := va_free hD hS hA is hC
  refine va_calll hr hS (fun q _ h => hF q h) hF (fun r' u t H1 locs1 ht hvm hw hB hz hk hS1 => ?_)
  subst hw
  rw [ht] at hB
  have hP2 := z_join hP hD hC hl hk hB
  rw [h2] at hP2
  exact kk H1 locs1 hP2 (z_D hD hd) hS1
theorem z_gov {G : va_G} {w wc wc' w2 : va_W} {H : Heap} {locs : List Loc} {A : Nat → Prop} {pc : Nat} {ls : Array Slot} {st0 rest : List Value} {a : Array Value} (is : List Nat) (hr : va_Run p l e R s m args below meth c H locs 0 0 0 0 (F0 m pc ls st0) rest (zQv G wc wc' H.size a) (va_A wc H.size)) (hA : ∀ q, s.heap.size ≤ q → A q) (hP : va_P G vwCl w H) (hD : va_D A w) (hS : va_S A s.heap H locs) (hC : is.map (fun i => w[i]?) = wc.map some) (hl : is.length = wc'.length) (h2 : zset w (is.zip wc') = w2) (hd : w2.map (fun q => q.1) = w.map (fun q => q.1))
    (kk : ∀ (H1 : Heap) (locs1 : List Loc), va_P G vwCl w2 H1 → va_D A w2 → va_S A s.heap H1 locs1 → W p l e R s m args below meth c H1 locs1 0 0 Q (F0 m (pc + 3) ls rest)) : W p l e R s m args below meth c H locs 0 0 Q (F0 m pc ls st0) := by
  have hF := va_free hD hS hA is hC
  refine va_callv hr hS (fun q _ h => hF q h) hF (fun u t H1 locs1 ht hvm hw hB hz hk hS1 => ?_)
  rw [ht] at hB
  have hP2 := z_join hP hD hC hl hk hB
  rw [h2] at hP2
  exact kk H1 locs1 hP2 (z_D hD hd) hS1
end ZG
/-- a contract out of a walk of the body: the one way to end is hret -/
theorem z_meti {l : Launch} {y : MethodName} {ws ws' : List Cond} {fr lo : Nat} {cc : ByteArray} {maxL : Nat} {G : va_G} {k : Nat → ClassId} {tL tM : Nat} {sK sV : Nat → Nat} {av : List Value} {w w' : va_W} {r : Int32} {sz : Nat} (hy : plainName y.cls = true) (hw : ws = Cond.code y cc maxL (some .int) :: ws') (hlen : (lg_sl av).length ≤ maxL)
    (body : ∀ (p : Program) (e : Env) (s : State) (m : MethodId) (below : List Frame) (meth : Method) (c : Code) (A : Nat → Prop) (Q : State → Prop) (H : Heap) (locs : List Loc) (ls : Array Slot), p.tables.exec = Jvm.exec → c.code = cc → c.maxLocals = maxL → (∀ x ∈ ws, x.before av.toArray s = true) → s.vm.findClass y.cls = some m.cls → (∀ q, s.heap.size ≤ q → A q) → va_K G vwCl (zT k) s → zE tL tM sK sV A s s.heap →
      (∀ (H : Heap) (locs : List Loc) (ls : Array Slot) (pc : Nat), va_P G vwCl w' H → va_S A s.heap H locs → decode cc pc = .ok (.ireturn, 1) → W p l e (zR fr lo) s m av.toArray below meth c H locs 0 0 Q (F0 m pc ls [.int r])) →
      va_P G vwCl w H → va_D A w → va_S A s.heap H locs → lv_has ls maxL (lv_args 0 av) → W p l e (zR fr lo) s m av.toArray below meth c H locs 0 0 Q (F0 m 0 ls [])) : zMi l y ws fr lo G k tL tM sK sV av w w' r sz := by
  refine Met.ofW (cc := cc) (maxL := maxL) (ret := some .int) hy hw ?_
  intro p e s m args below meth c s₁ B hml hv
  obtain ⟨rfl, hsz, hP, hK, hD0, hE⟩ := hv
  subst hsz
  have hr := B.returns
  have hlocks := B.notSynchronized
  rw [lg_entry_eq]
  refine body p e s m below meth c (va_A w s.heap.size) _ s.heap [] _ B.exec B.bytes hml (atoms_spec (ws := ws) B.pre) (findClass_of_methodNamed B.named) (fun q h => Or.inr h) hK hE ?_ hP hD0.self va_S.rf (lv_entry av hlen)
  intro H locs ls pc hP' hS' hd
  exact W.iret B.exec B.bytes hr (fun t ht hW => ⟨⟨r, (), rfl, rfl, (by show va_P G vwCl w' t.heap; rw [ht]; exact hP')⟩, hS'.F ht⟩) hS'.2.2 hd
theorem z_metz {l : Launch} {y : MethodName} {ws ws' : List Cond} {fr lo : Nat} {cc : ByteArray} {maxL : Nat} {G : va_G} {k : Nat → ClassId} {tL tM : Nat} {sK sV : Nat → Nat} {av : List Value} {w w' : va_W} {r : Int32} {sz : Nat} (hy : plainName y.cls = true) (hw : ws = Cond.code y cc maxL (some .boolean) :: ws') (hlen : (lg_sl av).length ≤ maxL)
    (body : ∀ (p : Program) (e : Env) (s : State) (m : MethodId) (below : List Frame) (meth : Method) (c : Code) (A : Nat → Prop) (Q : State → Prop) (H : Heap) (locs : List Loc) (ls : Array Slot), p.tables.exec = Jvm.exec → c.code = cc → c.maxLocals = maxL → (∀ x ∈ ws, x.before av.toArray s = true) → s.vm.findClass y.cls = some m.cls → (∀ q, s.heap.size ≤ q → A q) → va_K G vwCl (zT k) s → zE tL tM sK sV A s s.heap →
      (∀ (H : Heap) (locs : List Loc) (ls : Array Slot) (pc : Nat), (r = 0 ∨ r = 1) → va_P G vwCl w' H → va_S A s.heap H locs → decode cc pc = .ok (.ireturn, 1) → W p l e (zR fr lo) s m av.toArray below meth c H locs 0 0 Q (F0 m pc ls [.int r])) →
      va_P G vwCl w H → va_D A w → va_S A s.heap H locs → lv_has ls maxL (lv_args 0 av) → W p l e (zR fr lo) s m av.toArray below meth c H locs 0 0 Q (F0 m 0 ls [])) : zMi l y ws fr lo G k tL tM sK sV av w w' r sz := by
  refine Met.ofW (cc := cc) (maxL := maxL) (ret := some .boolean) hy hw ?_
  intro p e s m args below meth c s₁ B hml hv
  obtain ⟨rfl, hsz, hP, hK, hD0, hE⟩ := hv
  subst hsz
  have hr := B.returns
  have hlocks := B.notSynchronized
  rw [lg_entry_eq]
  refine body p e s m below meth c (va_A w s.heap.size) _ s.heap [] _ B.exec B.bytes hml (atoms_spec (ws := ws) B.pre) (findClass_of_methodNamed B.named) (fun q h => Or.inr h) hK hE ?_ hP hD0.self va_S.rf (lv_entry av hlen)
  intro H locs ls pc hbit hP' hS' hd
  exact W.zret B.exec B.bytes hr (by rcases hbit with rfl | rfl <;> rfl) (fun t ht hW => ⟨⟨r, (), rfl, rfl, (by show va_P G vwCl w' t.heap; rw [ht]; exact hP')⟩, hS'.F ht⟩) hS'.2.2 hd
theorem z_metl {l : Launch} {y : MethodName} {ws ws' : List Cond} {fr lo : Nat} {cc : ByteArray} {maxL : Nat} {G : va_G} {k : Nat → ClassId} {tL tM : Nat} {sK sV : Nat → Nat} {av : List Value} {w w' : va_W} {r : Int64} {sz : Nat} (hy : plainName y.cls = true) (hw : ws = Cond.code y cc maxL (some .long) :: ws') (hlen : (lg_sl av).length ≤ maxL)
    (body : ∀ (p : Program) (e : Env) (s : State) (m : MethodId) (below : List Frame) (meth : Method) (c : Code) (A : Nat → Prop) (Q : State → Prop) (H : Heap) (locs : List Loc) (ls : Array Slot), p.tables.exec = Jvm.exec → c.code = cc → c.maxLocals = maxL → (∀ x ∈ ws, x.before av.toArray s = true) → s.vm.findClass y.cls = some m.cls → (∀ q, s.heap.size ≤ q → A q) → va_K G vwCl (zT k) s → zE tL tM sK sV A s s.heap →
      (∀ (H : Heap) (locs : List Loc) (ls : Array Slot) (pc : Nat), va_P G vwCl w' H → va_S A s.heap H locs → decode cc pc = .ok (.lreturn, 1) → W p l e (zR fr lo) s m av.toArray below meth c H locs 0 0 Q (F0 m pc ls [.long r])) →
      va_P G vwCl w H → va_D A w → va_S A s.heap H locs → lv_has ls maxL (lv_args 0 av) → W p l e (zR fr lo) s m av.toArray below meth c H locs 0 0 Q (F0 m 0 ls [])) : zMl l y ws fr lo G k tL tM sK sV av w w' r sz := by
  refine Met.ofW (cc := cc) (maxL := maxL) (ret := some .long) hy hw ?_
  intro p e s m args below meth c s₁ B hml hv
  obtain ⟨rfl, hsz, hP, hK, hD0, hE⟩ := hv
  subst hsz
  have hr := B.returns
  have hlocks := B.notSynchronized
  rw [lg_entry_eq]
  refine body p e s m below meth c (va_A w s.heap.size) _ s.heap [] _ B.exec B.bytes hml (atoms_spec (ws := ws) B.pre) (findClass_of_methodNamed B.named) (fun q h => Or.inr h) hK hE ?_ hP hD0.self va_S.rf (lv_entry av hlen)
  intro H locs ls pc hP' hS' hd
  exact W.lret B.exec B.bytes hr (fun t ht hW => ⟨⟨r, (), rfl, rfl, (by show va_P G vwCl w' t.heap; rw [ht]; exact hP')⟩, hS'.F ht⟩) hS'.2.2 hd
theorem z_metv {l : Launch} {y : MethodName} {ws ws' : List Cond} {fr lo : Nat} {cc : ByteArray} {maxL : Nat} {G : va_G} {k : Nat → ClassId} {tL tM : Nat} {sK sV : Nat → Nat} {av : List Value} {w w' : va_W} {sz : Nat} (hy : plainName y.cls = true) (hw : ws = Cond.code y cc maxL none :: ws') (hlen : (lg_sl av).length ≤ maxL)
    (body : ∀ (p : Program) (e : Env) (s : State) (m : MethodId) (below : List Frame) (meth : Method) (c : Code) (A : Nat → Prop) (Q : State → Prop) (H : Heap) (locs : List Loc) (ls : Array Slot), p.tables.exec = Jvm.exec → c.code = cc → c.maxLocals = maxL → (∀ x ∈ ws, x.before av.toArray s = true) → s.vm.findClass y.cls = some m.cls → (∀ q, s.heap.size ≤ q → A q) → va_K G vwCl (zT k) s → zE tL tM sK sV A s s.heap →
      (∀ (H : Heap) (locs : List Loc) (ls : Array Slot) (pc : Nat), va_P G vwCl w' H → va_S A s.heap H locs → decode cc pc = .ok (.return_, 1) → W p l e (zR fr lo) s m av.toArray below meth c H locs 0 0 Q (F0 m pc ls [])) →
      va_P G vwCl w H → va_D A w → va_S A s.heap H locs → lv_has ls maxL (lv_args 0 av) → W p l e (zR fr lo) s m av.toArray below meth c H locs 0 0 Q (F0 m 0 ls [])) : zMv l y ws fr lo G k tL tM sK sV av w w' sz := by
  refine Met.ofW (cc := cc) (maxL := maxL) (ret := none) hy hw ?_
  intro p e s m args below meth c s₁ B hml hv
  obtain ⟨rfl, hsz, hP, hK, hD0, hE⟩ := hv
  subst hsz
  have hr := B.returns
  have hlocks := B.notSynchronized
  rw [lg_entry_eq]
  refine body p e s m below meth c (va_A w s.heap.size) _ s.heap [] _ B.exec B.bytes hml (atoms_spec (ws := ws) B.pre) (findClass_of_methodNamed B.named) (fun q h => Or.inr h) hK hE ?_ hP hD0.self va_S.rf (lv_entry av hlen)
  intro H locs ls pc hP' hS' hd
  exact W.vret B.exec B.bytes hr (fun t ht hW => ⟨⟨(), rfl, trivial, (by show va_P G vwCl w' t.heap; rw [ht]; exact hP')⟩, hS'.F ht⟩) hS'.2.2 hd
section ZH
variable {p : Program} {l : Launch} {e : Env} {R : Room} {s : State} {m : MethodId} {args : Array Value} {below : List Frame} {meth : Method} {c : Code} {H : Heap} {locs : List Loc} {cells slots : Nat} {Q : State → Prop}
variable {cc : ByteArray} {pc : Nat} {ls : Array Slot} {rest : List Value} {D : va_G} {cl : List vw_C} {A : Nat → Prop} {a : Nat} {tys : List (ClassId × FieldType)} {ws : va_W} {H0 : Heap}
theorem z_iald (hexec : p.tables.exec = Jvm.exec) (hb : c.code = cc) (hK : va_K D cl tys s) (hP : va_P D cl ws H) (q0 t0 : Nat) {cA : ClassId} {n : Nat} {f : Nat → Int32} (ha : ws[q0]? = some (a, .inl (cA, n, .inl f))) (ht : tys[t0]? = some (cA, .int)) {i v : Int32} (hv : z_get f n i = some v) (hdg : decode cc pc = .ok (.iaload, 1))
    (kk : W p l e R s m args below meth c H locs cells slots Q (F0 m (pc + 1) ls (.int v :: rest))) : W p l e R s m args below meth c H locs cells slots Q (F0 m pc ls (.int i :: .ref a :: rest)) := by
  obtain ⟨h1, h2⟩ := z_getS hv
  subst h2
  exact va_iald hexec hb hK hP q0 t0 ha ht h1 hdg kk
theorem z_bald (hexec : p.tables.exec = Jvm.exec) (hb : c.code = cc) (hK : va_K D cl tys s) (hP : va_P D cl ws H) (q0 t0 : Nat) {cA : ClassId} {n : Nat} {f : Nat → Int32} (ha : ws[q0]? = some (a, .inl (cA, n, .inl f))) (ht : tys[t0]? = some (cA, .byte)) {i v : Int32} (hv : z_get f n i = some v) (hdg : decode cc pc = .ok (.baload, 1))
    (kk : W p l e R s m args below meth c H locs cells slots Q (F0 m (pc + 1) ls (.int v :: rest))) : W p l e R s m args below meth c H locs cells slots Q (F0 m pc ls (.int i :: .ref a :: rest)) := by
  obtain ⟨h1, h2⟩ := z_getS hv
  subst h2
  exact va_bald hexec hb hK hP q0 t0 ha ht h1 hdg kk
theorem z_zald (hexec : p.tables.exec = Jvm.exec) (hb : c.code = cc) (hK : va_K D cl tys s) (hP : va_P D cl ws H) (q0 t0 : Nat) {cA : ClassId} {n : Nat} {f : Nat → Int32} (ha : ws[q0]? = some (a, .inl (cA, n, .inl f))) (ht : tys[t0]? = some (cA, .boolean)) {i v : Int32} (hv : z_get f n i = some v) (hdg : decode cc pc = .ok (.baload, 1))
    (kk : W p l e R s m args below meth c H locs cells slots Q (F0 m (pc + 1) ls (.int v :: rest))) : W p l e R s m args below meth c H locs cells slots Q (F0 m pc ls (.int i :: .ref a :: rest)) := by
  obtain ⟨h1, h2⟩ := z_getS hv
  subst h2
  exact va_zald hexec hb hK hP q0 t0 ha ht h1 hdg kk
theorem z_lald (hexec : p.tables.exec = Jvm.exec) (hb : c.code = cc) (hK : va_K D cl tys s) (hP : va_P D cl ws H) (q0 t0 : Nat) {cA : ClassId} {n : Nat} {f : Nat → Int64} (ha : ws[q0]? = some (a, .inl (cA, n, .inr (.inl f)))) (ht : tys[t0]? = some (cA, .long)) {i : Int32} {v : Int64} (hv : z_get f n i = some v) (hdg : decode cc pc = .ok (.laload, 1))
    (kk : W p l e R s m args below meth c H locs cells slots Q (F0 m (pc + 1) ls (.long v :: rest))) : W p l e R s m args below meth c H locs cells slots Q (F0 m pc ls (.int i :: .ref a :: rest)) := by
  obtain ⟨h1, h2⟩ := z_getS hv
  subst h2
  exact va_lald hexec hb hK hP q0 t0 ha ht h1 hdg kk
theorem z_iast (hexec : p.tables.exec = Jvm.exec) (hb : c.code = cc) (hK : va_K D cl tys s) (hP : va_P D cl ws H) (hD : va_D A ws) (hS : va_S A H0 H locs) (q0 t0 : Nat) {cA : ClassId} {n : Nat} {f g : Nat → Int32} (ha : ws[q0]? = some (a, .inl (cA, n, .inl f))) (ht : tys[t0]? = some (cA, .int)) {i x : Int32} (hv : z_set f n i x = some g) (hdg : decode cc pc = .ok (.iastore, 1))
    (kk : ∀ (H1 : Heap) (locs1 : List Loc), va_P D cl (ws.set q0 (a, .inl (cA, n, .inl g))) H1 → va_D A (ws.set q0 (a, .inl (cA, n, .inl g))) → va_S A H0 H1 locs1 → W p l e R s m args below meth c H1 locs1 cells slots Q (F0 m (pc + 1) ls rest)) : W p l e R s m args below meth c H locs cells slots Q (F0 m pc ls (.int x :: .int i :: .ref a :: rest)) := by
  obtain ⟨h1, h2⟩ := z_setS hv
  subst h2
  exact va_iast hexec hb hK hP hD hS q0 t0 ha ht h1 hdg kk
theorem z_bast (hexec : p.tables.exec = Jvm.exec) (hb : c.code = cc) (hK : va_K D cl tys s) (hP : va_P D cl ws H) (hD : va_D A ws) (hS : va_S A H0 H locs) (q0 t0 : Nat) {cA : ClassId} {n : Nat} {f g : Nat → Int32} (ha : ws[q0]? = some (a, .inl (cA, n, .inl f))) (ht : tys[t0]? = some (cA, .byte)) {i x : Int32} (hv : z_set f n i (vp_nar .byte x) = some g) (hdg : decode cc pc = .ok (.bastore, 1))
    (kk : ∀ (H1 : Heap) (locs1 : List Loc), va_P D cl (ws.set q0 (a, .inl (cA, n, .inl g))) H1 → va_D A (ws.set q0 (a, .inl (cA, n, .inl g))) → va_S A H0 H1 locs1 → W p l e R s m args below meth c H1 locs1 cells slots Q (F0 m (pc + 1) ls rest)) : W p l e R s m args below meth c H locs cells slots Q (F0 m pc ls (.int x :: .int i :: .ref a :: rest)) := by
  obtain ⟨h1, h2⟩ := z_setS hv
  subst h2
  exact va_bast hexec hb hK hP hD hS q0 t0 ha ht h1 hdg kk
theorem z_zast (hexec : p.tables.exec = Jvm.exec) (hb : c.code = cc) (hK : va_K D cl tys s) (hP : va_P D cl ws H) (hD : va_D A ws) (hS : va_S A H0 H locs) (q0 t0 : Nat) {cA : ClassId} {n : Nat} {f g : Nat → Int32} (ha : ws[q0]? = some (a, .inl (cA, n, .inl f))) (ht : tys[t0]? = some (cA, .boolean)) {i x : Int32} (hv : z_set f n i (vp_nar .boolean x) = some g) (hdg : decode cc pc = .ok (.bastore, 1))
    (kk : ∀ (H1 : Heap) (locs1 : List Loc), va_P D cl (ws.set q0 (a, .inl (cA, n, .inl g))) H1 → va_D A (ws.set q0 (a, .inl (cA, n, .inl g))) → va_S A H0 H1 locs1 → W p l e R s m args below meth c H1 locs1 cells slots Q (F0 m (pc + 1) ls rest)) : W p l e R s m args below meth c H locs cells slots Q (F0 m pc ls (.int x :: .int i :: .ref a :: rest)) := by
  obtain ⟨h1, h2⟩ := z_setS hv
  subst h2
  exact va_zast hexec hb hK hP hD hS q0 t0 ha ht h1 hdg kk
theorem z_last (hexec : p.tables.exec = Jvm.exec) (hb : c.code = cc) (hK : va_K D cl tys s) (hP : va_P D cl ws H) (hD : va_D A ws) (hS : va_S A H0 H locs) (q0 t0 : Nat) {cA : ClassId} {n : Nat} {f g : Nat → Int64} (ha : ws[q0]? = some (a, .inl (cA, n, .inr (.inl f)))) (ht : tys[t0]? = some (cA, .long)) {i : Int32} {x : Int64} (hv : z_setL f n i x = some g) (hdg : decode cc pc = .ok (.lastore, 1))
    (kk : ∀ (H1 : Heap) (locs1 : List Loc), va_P D cl (ws.set q0 (a, .inl (cA, n, .inr (.inl g)))) H1 → va_D A (ws.set q0 (a, .inl (cA, n, .inr (.inl g)))) → va_S A H0 H1 locs1 → W p l e R s m args below meth c H1 locs1 cells slots Q (F0 m (pc + 1) ls rest)) : W p l e R s m args below meth c H locs cells slots Q (F0 m pc ls (.long x :: .int i :: .ref a :: rest)) := by
  obtain ⟨h1, h2⟩ := z_setLS hv
  subst h2
  exact va_last hexec hb hK hP hD hS q0 t0 ha ht h1 hdg kk
theorem z_sti (hexec : p.tables.exec = Jvm.exec) (hb : c.code = cc) {t N : Nat} {g : Nat → Int32} (hT : va_T .int t N (fun j => .int (g j)) A s s.heap) (hS : va_S A s.heap H locs) {i v : Int32} (hv : z_get g N i = some v) (hdg : decode cc pc = .ok (.iaload, 1))
    (kk : W p l e R s m args below meth c H locs cells slots Q (F0 m (pc + 1) ls (.int v :: rest))) : W p l e R s m args below meth c H locs cells slots Q (F0 m pc ls (.int i :: .ref t :: rest)) := by
  obtain ⟨h1, h2⟩ := z_getS hv
  subst h2
  exact va_ti hexec hb hT hS h1 rfl hdg kk
end ZH
theorem zsl {α β γ : Type} {f : α → γ} {g : β → γ} {e : α ⊕ β} {v : α} {o : γ} (hv : Sum.inl v = e) (h : Sum.elim f g e = o) : f v = o := by subst hv; exact h
theorem zsr {α β γ : Type} {f : α → γ} {g : β → γ} {e : α ⊕ β} {v : β} {o : γ} (hv : Sum.inr v = e) (h : Sum.elim f g e = o) : g v = o := by subst hv; exact h
theorem zpeel_0_2 {α β γ : Type} {f : α → γ} {g : β → γ} {e : α ⊕ β} {v : α} {o : γ} (hv : Sum.inl v = e) (h : Sum.elim f g e = o) : f v = o := zsl hv h
theorem zpeel_1_2 {α β γ : Type} {f : α → γ} {g : β → γ} {e : α ⊕ β} {v : β} {o : γ} (hv : Sum.inr v = e) (h : Sum.elim f g e = o) : g v = o := zsr hv h
theorem zpeel_0_3 {α β δ γ : Type} {f : α → γ} {g : β → γ} {k : δ → γ} {e : α ⊕ β ⊕ δ} {v : α} {o : γ} (hv : Sum.inl v = e) (h : Sum.elim f (Sum.elim g k) e = o) : f v = o := zsl hv h
theorem zpeel_1_3 {α β δ γ : Type} {f : α → γ} {g : β → γ} {k : δ → γ} {e : α ⊕ β ⊕ δ} {v : β} {o : γ} (hv : Sum.inr (Sum.inl v) = e) (h : Sum.elim f (Sum.elim g k) e = o) : g v = o := by subst hv; exact h
theorem zpeel_2_3 {α β δ γ : Type} {f : α → γ} {g : β → γ} {k : δ → γ} {e : α ⊕ β ⊕ δ} {v : δ} {o : γ} (hv : Sum.inr (Sum.inr v) = e) (h : Sum.elim f (Sum.elim g k) e = o) : k v = o := by subst hv; exact h
theorem z_aldq {p : Program} {l : Launch} {e : Env} {R : Room} {s : State} {m : MethodId} {args : Array Value} {below : List Frame} {meth : Method} {c : Code} {H : Heap} {locs : List Loc} {cells slots : Nat} {Q : State → Prop} {cc : ByteArray} {pc : Nat} {ls : Array Slot} {rest : List Value} {D : va_G} {cl : List vw_C} {a : Nat} {tys : List (ClassId × FieldType)} {ws : va_W} (hexec : p.tables.exec = Jvm.exec) (hb : c.code = cc) (hK : va_K D cl tys s) (hP : va_P D cl ws H) (q0 t0 : Nat) {cA : ClassId} {C : String} {n b : Nat} {f : Nat → Option Nat} (ha : ws[q0]? = some (a, .inl (cA, n, .inr (.inr (.inr (.inr f)))))) (ht : tys[t0]? = some (cA, .object C)) {i : Int32} (hin : z_ok i n = true) (hf : f i.toNatClampNeg = some b) (hdg : decode cc pc = .ok (.aaload, 1))
    (kk : W p l e R s m args below meth c H locs cells slots Q (F0 m (pc + 1) ls (.ref b :: rest))) : W p l e R s m args below meth c H locs cells slots Q (F0 m pc ls (.int i :: .ref a :: rest)) := by
  refine va_aldq hexec hb hK hP q0 t0 ha ht (z_ok_in hin) hdg ?_
  rw [hf]
  exact kk
/-- answers of a narrower kind -/
theorem z_metn {l : Launch} {y : MethodName} {ws ws' : List Cond} {fr lo : Nat} {cc : ByteArray} {maxL : Nat} {ty : FieldType} {G : va_G} {k : Nat → ClassId} {tL tM : Nat} {sK sV : Nat → Nat} {av : List Value} {w w' : va_W} {r : Int32} {sz : Nat} (hy : plainName y.cls = true) (hw : ws = Cond.code y cc maxL (some ty) :: ws') (hlen : (lg_sl av).length ≤ maxL)
    (body : ∀ (p : Program) (e : Env) (s : State) (m : MethodId) (below : List Frame) (meth : Method) (c : Code) (A : Nat → Prop) (Q : State → Prop) (H : Heap) (locs : List Loc) (ls : Array Slot), p.tables.exec = Jvm.exec → c.code = cc → c.maxLocals = maxL → (∀ x ∈ ws, x.before av.toArray s = true) → s.vm.findClass y.cls = some m.cls → (∀ q, s.heap.size ≤ q → A q) → va_K G vwCl (zT k) s → zE tL tM sK sV A s s.heap →
      (∀ (H : Heap) (locs : List Loc) (ls : Array Slot) (pc : Nat), narrow ty (.int r) = .int r → va_P G vwCl w' H → va_S A s.heap H locs → decode cc pc = .ok (.ireturn, 1) → W p l e (zR fr lo) s m av.toArray below meth c H locs 0 0 Q (F0 m pc ls [.int r])) →
      va_P G vwCl w H → va_D A w → va_S A s.heap H locs → lv_has ls maxL (lv_args 0 av) → W p l e (zR fr lo) s m av.toArray below meth c H locs 0 0 Q (F0 m 0 ls [])) : zMi l y ws fr lo G k tL tM sK sV av w w' r sz := by
  refine Met.ofW (cc := cc) (maxL := maxL) (ret := some ty) hy hw ?_
  intro p e s m args below meth c s₁ B hml hv
  obtain ⟨rfl, hsz, hP, hK, hD0, hE⟩ := hv
  subst hsz
  have hr := B.returns
  have hlocks := B.notSynchronized
  rw [lg_entry_eq]
  refine body p e s m below meth c (va_A w s.heap.size) _ s.heap [] _ B.exec B.bytes hml (atoms_spec (ws := ws) B.pre) (findClass_of_methodNamed B.named) (fun q h => Or.inr h) hK hE ?_ hP hD0.self va_S.rf (lv_entry av hlen)
  intro H locs ls pc hn hP' hS' hd
  exact W.zret B.exec B.bytes hr hn (fun t ht hW => ⟨⟨r, (), rfl, rfl, (by show va_P G vwCl w' t.heap; rw [ht]; exact hP')⟩, hS'.F ht⟩) hS'.2.2 hd
/-- an answer that is a char -/
def z_chr (x : Int32) : Option Int32 := if (x.toUInt32 % 65536).toInt32 = x then some x else none
theorem z_chrS {x v : Int32} (h : z_chr x = some v) : narrow .char (.int v) = .int v ∧ x = v := by
  by_cases c : (x.toUInt32 % 65536).toInt32 = x
  · rw [z_chr, if_pos c] at h
    cases zs h
    have q := pk_nc x
    rw [c] at q
    exact ⟨q, rfl⟩
  · rw [z_chr, if_neg c] at h; cases h
/-- an answer that is a text -/
abbrev zQs (G : va_G) (w w' : va_W) (b : Nat) (sz : Nat) : Array Value → State → Outcome → State → Prop := va_Qr (fun (_ : Unit) => True) (fun _ a t => a = b ∧ va_P G vwCl w' t.heap) (va_A w sz)
abbrev zMs (l : Launch) (y : MethodName) (ws : List Cond) (fr lo : Nat) (G : va_G) (k : Nat → ClassId) (tL tM : Nat) (sK sV : Nat → Nat) (av : List Value) (w w' : va_W) (b : Nat) (sz : Nat) : Prop := Met l y ws (zR fr lo) (va_Pc av (zB G k tL tM sK sV w sz)) (zQs G w w' b sz) 0 0 (va_A w sz)
theorem z_mets {l : Launch} {y : MethodName} {ws ws' : List Cond} {fr lo : Nat} {cc : ByteArray} {maxL : Nat} {C : String} {G : va_G} {k : Nat → ClassId} {tL tM : Nat} {sK sV : Nat → Nat} {av : List Value} {w w' : va_W} {b : Nat} {sz : Nat} (hy : plainName y.cls = true) (hw : ws = Cond.code y cc maxL (some (.object C)) :: ws') (hlen : (lg_sl av).length ≤ maxL)
    (body : ∀ (p : Program) (e : Env) (s : State) (m : MethodId) (below : List Frame) (meth : Method) (c : Code) (A : Nat → Prop) (Q : State → Prop) (H : Heap) (locs : List Loc) (ls : Array Slot), p.tables.exec = Jvm.exec → c.code = cc → c.maxLocals = maxL → (∀ x ∈ ws, x.before av.toArray s = true) → s.vm.findClass y.cls = some m.cls → (∀ q, s.heap.size ≤ q → A q) → va_K G vwCl (zT k) s → zE tL tM sK sV A s s.heap →
      (∀ (H : Heap) (locs : List Loc) (ls : Array Slot) (pc : Nat), va_P G vwCl w' H → va_S A s.heap H locs → decode cc pc = .ok (.areturn, 1) → W p l e (zR fr lo) s m av.toArray below meth c H locs 0 0 Q (F0 m pc ls [.ref b])) →
      va_P G vwCl w H → va_D A w → va_S A s.heap H locs → lv_has ls maxL (lv_args 0 av) → W p l e (zR fr lo) s m av.toArray below meth c H locs 0 0 Q (F0 m 0 ls [])) : zMs l y ws fr lo G k tL tM sK sV av w w' b sz := by
  refine Met.ofW (cc := cc) (maxL := maxL) (ret := some (.object C)) hy hw ?_
  intro p e s m args below meth c s₁ B hml hv
  obtain ⟨rfl, hsz, hP, hK, hD0, hE⟩ := hv
  subst hsz
  have hr := B.returns
  have hlocks := B.notSynchronized
  rw [lg_entry_eq]
  refine body p e s m below meth c (va_A w s.heap.size) _ s.heap [] _ B.exec B.bytes hml (atoms_spec (ws := ws) B.pre) (findClass_of_methodNamed B.named) (fun q h => Or.inr h) hK hE ?_ hP hD0.self va_S.rf (lv_entry av hlen)
  intro H locs ls pc hP' hS' hd
  exact W.aret B.exec B.bytes hr (Or.inl ⟨C, rfl⟩) (Or.inr ⟨b, rfl⟩) (fun t ht hW => ⟨⟨(), b, rfl, trivial, rfl, (by rw [ht]; exact hP')⟩, hS'.F ht⟩) hS'.2.2 hd
section ZS
variable {p : Program} {l : Launch} {e : Env} {R : Room} {s : State} {m : MethodId} {args : Array Value} {below : List Frame} {meth : Method} {c : Code} {Q : State → Prop}
theorem z_gos {G : va_G} {w wc wc' w2 : va_W} {H : Heap} {locs : List Loc} {A : Nat → Prop} {pc : Nat} {ls : Array Slot} {st0 rest : List Value} {a : Array Value} {b : Nat} (is : List Nat) (hr : va_Run p l e R s m args below meth c H locs 0 0 0 0 (F0 m pc ls st0) rest (zQs G wc wc' b H.size a) (va_A wc H.size)) (hA : ∀ q, s.heap.size ≤ q → A q) (hP : va_P G vwCl w H) (hD : va_D A w) (hS : va_S A s.heap H locs) (hC : is.map (fun i => w[i]?) = wc.map some) (hl : is.length = wc'.length) (h2 : zset w (is.zip wc') = w2) (hd : w2.map (fun q => q.1) = w.map (fun q => q.1))
    (kk : ∀ (H1 : Heap) (locs1 : List Loc), va_P G vwCl w2 H1 → va_D A w2 → va_S A s.heap H1 locs1 → W p l e R s m args below meth c H1 locs1 0 0 Q (F0 m (pc + 3) ls (.ref b :: rest))) : W p l e R s m args below meth c H locs 0 0 Q (F0 m pc ls st0) := by
  have hF := va_free hD hS hA is hC
  refine va_callr hr hS (fun q _ h => hF q h) hF (fun u ra t H1 locs1 ht hvm hw hB hz hk hS1 => ?_)
  obtain ⟨e1, hB⟩ := hB
  subst e1
  rw [ht] at hB
  have hP2 := z_join hP hD hC hl hk hB
  rw [h2] at hP2
  exact kk H1 locs1 hP2 (z_D hD hd) hS1
theorem z_preVs {G : va_G} {k : Nat → ClassId} {tL tM : Nat} {sK sV : Nat → Nat} {w wc : va_W} {H : Heap} {locs : List Loc} {A : Nat → Prop} {i : Nat} {As : List Value} (is : List Nat) (hi : i < 7) (hK : va_K G vwCl (zT k) s) (hE : zE tL tM sK sV A s s.heap) (hA : ∀ q, s.heap.size ≤ q → A q) (hP : va_P G vwCl w H) (hD : va_D A w) (hS : va_S A s.heap H locs) (hn : va_nd is = true) (hC : is.map (fun i => w[i]?) = wc.map some) : PreV s H "java/lang/String" (sK i) (va_Pc (.ref (sK i) :: As) (zB G k tL tM sK sV wc H.size)) As := ⟨z_blind, vk_recv hE.2.2.2.2.2.2.1 hi hS, z_pre hK hE hA hP hD hS hn hC (.ref (sK i) :: As)⟩
end ZS
def z_sby (i : Nat) : Nat → Int32 := fun j => (zby.getD i []).getD j 0
theorem z_stb {p : Program} {l : Launch} {e : Env} {R : Room} {s : State} {m : MethodId} {args : Array Value} {below : List Frame} {meth : Method} {c : Code} {H : Heap} {locs : List Loc} {cells slots : Nat} {Q : State → Prop} {cc : ByteArray} {pc : Nat} {ls : Array Slot} {rest : List Value} {A : Nat → Prop} (hexec : p.tables.exec = Jvm.exec) (hb : c.code = cc) {t N : Nat} {g : Nat → Int32} (hT : va_T .byte t N (fun j => .int (g j)) A s s.heap) (hS : va_S A s.heap H locs) {i v : Int32} (hv : z_get g N i = some v) (hdg : decode cc pc = .ok (.baload, 1))
    (kk : W p l e R s m args below meth c H locs cells slots Q (F0 m (pc + 1) ls (.int v :: rest))) : W p l e R s m args below meth c H locs cells slots Q (F0 m pc ls (.int i :: .ref t :: rest)) := by
  obtain ⟨h1, h2⟩ := z_getS hv
  subst h2
  exact va_tb hexec hb hT hS h1 rfl hdg kk
