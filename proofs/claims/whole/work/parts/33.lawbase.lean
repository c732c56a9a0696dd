/-! THE LAW'S CALLS -/
section ZL
variable {p : Program} {l : Launch} {e : Env} {R : Room} {s : State} {m : MethodId} {args : Array Value} {below : List Frame} {meth : Method} {c : Code} {Q : State → Prop} {cells slots : Nat}
def zWL (p : Program) (l : Launch) (e : Env) (s : State) (m : MethodId) (b : Nat) (below : List Frame) (meth : Method) (c : Code) (Q : State → Prop) (G : va_G) (w : va_W) (lv : List (Nat × Value)) (pc : Nat) (st : List Value) : Prop :=
  ∀ (H : Heap) (locs : List Loc) (ls : Array Slot), va_P G vwCl w H → va_D (fun q : Nat => s.heap.size ≤ q) w → va_S (fun q : Nat => s.heap.size ≤ q) s.heap H locs → lv_has ls 4 lv → W p l e room_1 s m #[Value.ref b] below meth c H locs 42 2054 Q (F0 m pc ls st)
theorem z_goiL {G : va_G} {w wc wc' w2 : va_W} {H : Heap} {locs : List Loc} {A : Nat → Prop} {pc : Nat} {ls : Array Slot} {st0 rest : List Value} {a : Array Value} {r : Int32} (is : List Nat) (hr : va_Run p l e R s m args below meth c H locs cells slots 0 0 (F0 m pc ls st0) rest (zQi G wc wc' r H.size a) (va_A wc H.size)) (hA : ∀ q, s.heap.size ≤ q → A q) (hP : va_P G vwCl w H) (hD : va_D A w) (hS : va_S A s.heap H locs) (hC : is.map (fun i => w[i]?) = wc.map some) (hl : is.length = wc'.length) (h2 : zset w (is.zip wc') = w2) (hd : w2.map (fun q => q.1) = w.map (fun q => q.1))
    (kk : ∀ (H1 : Heap) (locs1 : List Loc), va_P G vwCl w2 H1 → va_D A w2 → va_S A s.heap H1 locs1 → W p l e R s m args below meth c H1 locs1 cells slots Q (F0 m (pc + 3) ls (.int r :: rest))) : W p l e R s m args below meth c H locs cells slots Q (F0 m pc ls st0) := by
  have hF := va_free hD hS hA is hC
  refine va_calli hr hS (fun q _ h => hF q h) hF (fun r' u t H1 locs1 ht hvm hw hB hz hk hS1 => ?_)
  subst hw
  rw [ht] at hB
  have hP2 := z_join hP hD hC hl hk hB
  rw [h2] at hP2
  exact kk H1 locs1 hP2 (z_D hD hd) hS1
theorem z_golL {G : va_G} {w wc wc' w2 : va_W} {H : Heap} {locs : List Loc} {A : Nat → Prop} {pc : Nat} {ls : Array Slot} {st0 rest : List Value} {a : Array Value} {r : Int64} (is : List Nat) (hr : va_Run p l e R s m args below meth c H locs cells slots 0 0 (F0 m pc ls st0) rest (zQl G wc wc' r H.size a) (va_A wc H.size)) (hA : ∀ q, s.heap.size ≤ q → A q) (hP : va_P G vwCl w H) (hD : va_D A w) (hS : va_S A s.heap H locs) (hC : is.map (fun i => w[i]?) = wc.map some) (hl : is.length = wc'.length) (h2 : zset w (is.zip wc') = w2) (hd : w2.map (fun q => q.1) = w.map (fun q => q.1))
    (kk : ∀ (H1 : Heap) (locs1 : List Loc), va_P G vwCl w2 H1 → va_D A w2 → va_S A s.heap H1 locs1 → W p l e R s m args below meth c H1 locs1 cells slots Q (F0 m (pc + 3) ls (.long r :: rest))) : W p l e R s m args below meth c H locs cells slots Q (F0 m pc ls st0) := by
  have hF := va_free hD hS hA is hC
  refine va_calll hr hS (fun q _ h => hF q h) hF (fun r' u t H1 locs1 ht hvm hw hB hz hk hS1 => ?_)
  subst hw
  rw [ht] at hB
  have hP2 := z_join hP hD hC hl hk hB
  rw [h2] at hP2
  exact kk H1 locs1 hP2 (z_D hD hd) hS1
end ZL
/-- what the law's calls rest on -/
def zLC (p : Program) (s : State) (m : MethodId) (c : Code) (b L : Nat) (xs : Nat → Int32) (G : va_G) (k : Nat → ClassId) (tL tM : Nat) (sK sV : Nat → Nat) : Prop :=
  p.tables.exec = Jvm.exec ∧ c.code = code ∧ c.maxLocals = 4 ∧ s.vm.findClass RL = some m.cls ∧ (∀ w ∈ wsL_law, w.before #[Value.ref b] s = true) ∧ va_X b L xs s s.heap ∧ b < s.heap.size ∧ va_K G vwCl (zT k) s ∧ zE tL tM sK sV (fun q : Nat => s.heap.size ≤ q) s s.heap
theorem z_cmp0 (x : Int64) : lg_cmp x x = 0 := by unfold lg_cmp; rw [if_neg (show ¬ x > x from fun q => Int64.lt_irrefl q), if_pos rfl]
theorem z_l5 {x : Int32} {j L : Nat} (ex : x = nI j) (hL : L ≤ 2560) (hj : j ≤ L) (c : ¬ (nI L - 5) < x) : j + 5 ≤ L := by
  rw [ex, Int32.lt_iff_toInt_lt, show (5 : Int32) = nI 5 from rfl, pk_sub_toInt (by omega) (by omega), nI_toInt (by omega)] at c
  omega
