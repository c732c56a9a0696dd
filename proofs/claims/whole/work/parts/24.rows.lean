/-! calls that hand the grid on -/
theorem zset_app_l {r : va_W} : ∀ (ps : List (Nat × (Nat × va_E))) (X : va_W), (∀ p ∈ ps, p.1 < X.length) → zset (X ++ r) ps = zset X ps ++ r
  | [], _, _ => rfl
  | p :: ps, X, h => by
    show zset ((X ++ r).set p.1 p.2) ps = zset (X.set p.1 p.2) ps ++ r
    rw [List.set_append_left _ _ (h p List.mem_cons_self)]
    exact zset_app_l ps (X.set p.1 p.2) (fun q hq => by rw [List.length_set]; exact h q (List.mem_cons_of_mem _ hq))
theorem zset_tail : ∀ (B B' X : va_W), B.length = B'.length → zset (X ++ B) (((List.range B.length).map (fun j => X.length + j)).zip B') = X ++ B'
  | [], [], X, _ => rfl
  | [], _ :: _, _, h => by simp at h
  | _ :: _, [], _, h => by simp at h
  | b :: B, b' :: B', X, h => by
    have ih := zset_tail B B' (X ++ [b']) (by simpa using h)
    rw [List.length_cons, List.range_succ_eq_map, List.map_cons, List.map_map, List.zip_cons_cons]
    show zset ((X ++ b :: B).set (X.length + 0) b') _ = _
    rw [List.set_append_right _ _ (by omega), show X.length + 0 - X.length = 0 by omega, List.set_cons_zero]
    rw [show X ++ b' :: B = (X ++ [b']) ++ B by simp, show X ++ b' :: B' = (X ++ [b']) ++ B' by simp, ← ih]
    congr 3
    funext j
    simp only [Function.comp, List.length_append, List.length_cons, List.length_nil]
    omega
theorem zrows_len {k : Nat → ClassId} {ar : Nat → Nat} {g : Nat → Nat → Int32} : (zrows k ar g).length = 21 := by simp [zrows]
theorem zR_C {k : Nat → ClassId} {ar : Nat → Nat} {g : Nat → Nat → Int32} {X : va_W} {n0 : Nat} (hn : X.length = n0) : ∀ (is : List Nat) (Xc : va_W), is.map (fun i => X[i]?) = Xc.map some → (is ++ (List.range 21).map (fun j => n0 + j)).map (fun i => (X ++ zrows k ar g)[i]?) = (Xc ++ zrows k ar g).map some
  | [], [], _ => by
    subst hn
    rw [List.nil_append, List.nil_append, List.map_map, zrows, List.map_map]
    apply List.map_congr_left
    intro j hj
    exact zrows_at (List.mem_range.mp hj)
  | [], _ :: _, h => by simp at h
  | _ :: _, [], h => by simp at h
  | i :: is, c :: Xc, h => by
    have h1 : X[i]? = some c := by have := List.cons.inj h; exact this.1
    have h2 : is.map (fun i => X[i]?) = Xc.map some := (List.cons.inj h).2
    have ih := zR_C (k := k) (ar := ar) (g := g) hn is Xc h2
    rw [List.cons_append, List.cons_append, List.map_cons, List.map_cons, ih, List.getElem?_append_left (List.getElem?_eq_some_iff.mp h1).1, h1]
theorem zR_set {k : Nat → ClassId} {ar : Nat → Nat} {g g' : Nat → Nat → Int32} {X Xc' X2 : va_W} {n0 : Nat} {is : List Nat} (hn : X.length = n0) (hl : is.length = Xc'.length) (hb : ∀ i ∈ is, i < n0) (h2 : zset X (is.zip Xc') = X2) (h3 : X2.length = n0) : zset (X ++ zrows k ar g) ((is ++ (List.range 21).map (fun j => n0 + j)).zip (Xc' ++ zrows k ar g')) = X2 ++ zrows k ar g' := by
  rw [List.zip_append hl]
  show ((is.zip Xc') ++ _).foldl (fun w p => w.set p.1 p.2) (X ++ zrows k ar g) = _
  rw [List.foldl_append]
  show zset (zset (X ++ zrows k ar g) (is.zip Xc')) _ = _
  rw [zset_app_l _ _ (fun p hp => by rw [hn]; exact hb p.1 (List.of_mem_zip hp).1), h2]
  have t := zset_tail (zrows k ar g) (zrows k ar g') X2 (by rw [zrows_len, zrows_len])
  rw [zrows_len, h3] at t
  exact t
section ZQ
variable {p : Program} {l : Launch} {e : Env} {R : Room} {s : State} {m : MethodId} {args : Array Value} {below : List Frame} {meth : Method} {c : Code} {Q : State → Prop}
theorem z_preVR {G : va_G} {k : Nat → ClassId} {tL tM : Nat} {sK sV : Nat → Nat} {ar : Nat → Nat} {g : Nat → Nat → Int32} {X Xc : va_W} {H : Heap} {locs : List Loc} {A : Nat → Prop} {b : Nat} {As : List Value} {fs : List Value} {q : vw_C} (is : List Nat) (n0 q0 ci : Nat) (hn : X.length = n0) (hK : va_K G vwCl (zT k) s) (hE : zE tL tM sK sV A s s.heap) (hA : ∀ q, s.heap.size ≤ q → A q) (hP : va_P G vwCl (X ++ zrows k ar g) H) (hD : va_D A (X ++ zrows k ar g)) (hS : va_S A s.heap H locs) (hnd : va_nd (is ++ (List.range 21).map (fun j => n0 + j)) = true) (hC : is.map (fun i => X[i]?) = Xc.map some) (hc : vwCl[ci]? = some q) (he : X[q0]? = some (b, .inr (ci, fs))) : PreV s H q.1 b (va_Pc (.ref b :: As) (zB G k tL tM sK sV (Xc ++ zrows k ar g) H.size)) As :=
  ⟨z_blind, va_recv hK hP hc ((List.getElem?_append_left (List.getElem?_eq_some_iff.mp he).1).trans he), z_pre hK hE hA hP hD hS hnd (zR_C hn is Xc hC) (.ref b :: As)⟩
theorem z_goRv {G : va_G} {k : Nat → ClassId} {ar : Nat → Nat} {g g' : Nat → Nat → Int32} {X Xc Xc' X2 : va_W} {H : Heap} {locs : List Loc} {A : Nat → Prop} {pc : Nat} {ls : Array Slot} {st0 rest : List Value} {a : Array Value} (is : List Nat) (n0 : Nat) (hr : va_Run p l e R s m args below meth c H locs 0 0 0 0 (F0 m pc ls st0) rest (zQv G (Xc ++ zrows k ar g) (Xc' ++ zrows k ar g') H.size a) (va_A (Xc ++ zrows k ar g) H.size)) (hn : X.length = n0) (hA : ∀ q, s.heap.size ≤ q → A q) (hP : va_P G vwCl (X ++ zrows k ar g) H) (hD : va_D A (X ++ zrows k ar g)) (hS : va_S A s.heap H locs) (hC : is.map (fun i => X[i]?) = Xc.map some) (hl : is.length = Xc'.length) (hb : ∀ i ∈ is, i < n0) (h2 : zset X (is.zip Xc') = X2) (hd : X2.map (fun q => q.1) = X.map (fun q => q.1))
    (kk : ∀ (H1 : Heap) (locs1 : List Loc), va_P G vwCl (X2 ++ zrows k ar g') H1 → va_D A (X2 ++ zrows k ar g') → va_S A s.heap H1 locs1 → W p l e R s m args below meth c H1 locs1 0 0 Q (F0 m (pc + 3) ls rest)) : W p l e R s m args below meth c H locs 0 0 Q (F0 m pc ls st0) := by
  have h3 : X2.length = n0 := by have := congrArg List.length hd; simp only [List.length_map] at this; omega
  refine z_gov (w2 := X2 ++ zrows k ar g') (is ++ (List.range 21).map (fun j => n0 + j)) hr hA hP hD hS (zR_C hn is Xc hC) ?_ (zR_set hn hl hb h2 h3) ?_ kk
  · simp [zrows, hl]
  · rw [List.map_append, List.map_append, hd, zrows, zrows, List.map_map, List.map_map]; rfl
theorem z_goRi {G : va_G} {k : Nat → ClassId} {ar : Nat → Nat} {g g' : Nat → Nat → Int32} {X Xc Xc' X2 : va_W} {H : Heap} {locs : List Loc} {A : Nat → Prop} {pc : Nat} {ls : Array Slot} {st0 rest : List Value} {a : Array Value} {r : Int32} (is : List Nat) (n0 : Nat) (hr : va_Run p l e R s m args below meth c H locs 0 0 0 0 (F0 m pc ls st0) rest (zQi G (Xc ++ zrows k ar g) (Xc' ++ zrows k ar g') r H.size a) (va_A (Xc ++ zrows k ar g) H.size)) (hn : X.length = n0) (hA : ∀ q, s.heap.size ≤ q → A q) (hP : va_P G vwCl (X ++ zrows k ar g) H) (hD : va_D A (X ++ zrows k ar g)) (hS : va_S A s.heap H locs) (hC : is.map (fun i => X[i]?) = Xc.map some) (hl : is.length = Xc'.length) (hb : ∀ i ∈ is, i < n0) (h2 : zset X (is.zip Xc') = X2) (hd : X2.map (fun q => q.1) = X.map (fun q => q.1))
    (kk : ∀ (H1 : Heap) (locs1 : List Loc), va_P G vwCl (X2 ++ zrows k ar g') H1 → va_D A (X2 ++ zrows k ar g') → va_S A s.heap H1 locs1 → W p l e R s m args below meth c H1 locs1 0 0 Q (F0 m (pc + 3) ls (.int r :: rest))) : W p l e R s m args below meth c H locs 0 0 Q (F0 m pc ls st0) := by
  have h3 : X2.length = n0 := by have := congrArg List.length hd; simp only [List.length_map] at this; omega
  refine z_goi (w2 := X2 ++ zrows k ar g') (is ++ (List.range 21).map (fun j => n0 + j)) hr hA hP hD hS (zR_C hn is Xc hC) ?_ (zR_set hn hl hb h2 h3) ?_ kk
  · simp [zrows, hl]
  · rw [List.map_append, List.map_append, hd, zrows, zrows, List.map_map, List.map_map]; rfl
end ZQ
