/-! makings -/
abbrev zU : Type := (Nat → Nat) × (Nat → Nat)
theorem z_RA {U : State} {a b : ClassId} {ty : FieldType} (h1 : va_RA U a ty) (h2 : va_RA U b ty) : a = b := by
  cases ty with
  | object C =>
    obtain ⟨k1, c1, x1, x2, x3, x4⟩ := h1
    obtain ⟨k2, c2, y1, y2, y3, y4⟩ := h2
    exact Option.some.inj (x4.symm.trans y4)
  | _ => exact Option.some.inj (Eq.trans (Eq.symm h1) h2)
abbrev zRc (fr lo nc ns : Nat) : Room := { frames := fr, cells := nc, slots := ns, locals := lo }
abbrev zQa (G : va_G) (w : va_W) (w' : zU → va_W) (sz : Nat) : Array Value → State → Outcome → State → Prop := va_Qv (fun (_ : zU) => True) (fun u t => va_P G vwCl (w' u) t.heap ∧ va_D (va_A w sz) (w' u)) (va_A w sz)
abbrev zMa (l : Launch) (y : MethodName) (ws : List Cond) (fr lo nc ns : Nat) (G : va_G) (k : Nat → ClassId) (tL tM : Nat) (sK sV : Nat → Nat) (av : List Value) (w : va_W) (w' : zU → va_W) (sz : Nat) : Prop := Met l y ws (zRc fr lo nc ns) (va_Pc av (zB G k tL tM sK sV w sz)) (zQa G w w' sz) nc ns (va_A w sz)
/-- what making rows of references asks -/
def zAO (U : State) : Prop := va_AO "SpireLean$Town" U ∧ va_AO "SpireLean$Sheet" U
abbrev zMx (l : Launch) (y : MethodName) (ws : List Cond) (fr lo nc ns : Nat) (G : va_G) (k : Nat → ClassId) (tL tM : Nat) (sK sV : Nat → Nat) (av : List Value) (w : va_W) (w' : zU → va_W) (sz : Nat) : Prop := Met l y ws (zRc fr lo nc ns) (va_Pc av (fun U => zB G k tL tM sK sV w sz U ∧ zAO U)) (zQa G w w' sz) nc ns (va_A w sz)
theorem z_meta {l : Launch} {y : MethodName} {ws ws' : List Cond} {fr lo nc ns : Nat} {cc : ByteArray} {maxL : Nat} {G : va_G} {k : Nat → ClassId} {tL tM : Nat} {sK sV : Nat → Nat} {av : List Value} {w : va_W} {w' : zU → va_W} {sz : Nat} (hy : plainName y.cls = true) (hyn : y.name = "<init>") (hw : ws = Cond.code y cc maxL none :: ws') (hlen : (lg_sl av).length ≤ maxL)
    (body : ∀ (p : Program) (e : Env) (s : State) (m : MethodId) (below : List Frame) (meth : Method) (c : Code) (A : Nat → Prop) (Q : State → Prop) (H : Heap) (locs : List Loc) (ls : Array Slot), p.tables.exec = Jvm.exec → c.code = cc → c.maxLocals = maxL → (∀ x ∈ ws, x.before av.toArray s = true) → s.vm.findClass y.cls = some m.cls → (∀ q, s.heap.size ≤ q → A q) → va_K G vwCl (zT k) s → zE tL tM sK sV A s s.heap → meth.name = "<init>" →
      (∀ (H : Heap) (locs : List Loc) (ls : Array Slot) (pc : Nat) (u : zU), va_P G vwCl (w' u) H → va_D A (w' u) → va_S A s.heap H locs → decode cc pc = .ok (.return_, 1) → W p l e (zRc fr lo nc ns) s m av.toArray below meth c H locs nc ns Q (F0 m pc ls [])) →
      va_P G vwCl w H → va_D A w → va_S A s.heap H locs → lv_has ls maxL (lv_args 0 av) → W p l e (zRc fr lo nc ns) s m av.toArray below meth c H locs 0 0 Q (F0 m 0 ls [])) : zMa l y ws fr lo nc ns G k tL tM sK sV av w w' sz := by
  refine Met.ofW (cc := cc) (maxL := maxL) (ret := none) hy hw ?_
  intro p e s m args below meth c s₁ B hml hv
  obtain ⟨rfl, hsz, hP, hK, hD0, hE⟩ := hv
  subst hsz
  have hr := B.returns
  have hlocks := B.notSynchronized
  have hin : meth.name = y.name := (name_of_methodNamed B.named B.method).1
  rw [lg_entry_eq]
  refine body p e s m below meth c (va_A w s.heap.size) _ s.heap [] _ B.exec B.bytes hml (atoms_spec (ws := ws) B.pre) (findClass_of_methodNamed B.named) (fun q h => Or.inr h) hK hE (hin.trans hyn) ?_ hP hD0.self va_S.rf (lv_entry av hlen)
  intro H locs ls pc u hP' hD' hS' hd
  exact W.vret B.exec B.bytes hr (fun t ht hW => ⟨⟨u, rfl, trivial, (by show va_P G vwCl (w' u) t.heap; rw [ht]; exact hP'), hD'⟩, hS'.F ht⟩) hS'.2.2 hd
theorem z_metx {l : Launch} {y : MethodName} {ws ws' : List Cond} {fr lo nc ns : Nat} {cc : ByteArray} {maxL : Nat} {G : va_G} {k : Nat → ClassId} {tL tM : Nat} {sK sV : Nat → Nat} {av : List Value} {w : va_W} {w' : zU → va_W} {sz : Nat} (hy : plainName y.cls = true) (hyn : y.name = "<init>") (hw : ws = Cond.code y cc maxL none :: ws') (hlen : (lg_sl av).length ≤ maxL)
    (body : ∀ (p : Program) (e : Env) (s : State) (m : MethodId) (below : List Frame) (meth : Method) (c : Code) (A : Nat → Prop) (Q : State → Prop) (H : Heap) (locs : List Loc) (ls : Array Slot), p.tables.exec = Jvm.exec → c.code = cc → c.maxLocals = maxL → (∀ x ∈ ws, x.before av.toArray s = true) → s.vm.findClass y.cls = some m.cls → (∀ q, s.heap.size ≤ q → A q) → va_K G vwCl (zT k) s → zE tL tM sK sV A s s.heap → meth.name = "<init>" → zAO s →
      (∀ (H : Heap) (locs : List Loc) (ls : Array Slot) (pc : Nat) (u : zU), va_P G vwCl (w' u) H → va_D A (w' u) → va_S A s.heap H locs → decode cc pc = .ok (.return_, 1) → W p l e (zRc fr lo nc ns) s m av.toArray below meth c H locs nc ns Q (F0 m pc ls [])) →
      va_P G vwCl w H → va_D A w → va_S A s.heap H locs → lv_has ls maxL (lv_args 0 av) → W p l e (zRc fr lo nc ns) s m av.toArray below meth c H locs 0 0 Q (F0 m 0 ls [])) : zMx l y ws fr lo nc ns G k tL tM sK sV av w w' sz := by
  refine Met.ofW (cc := cc) (maxL := maxL) (ret := none) hy hw ?_
  intro p e s m args below meth c s₁ B hml hv
  obtain ⟨rfl, ⟨hsz, hP, hK, hD0, hE⟩, hao⟩ := hv
  subst hsz
  have hr := B.returns
  have hlocks := B.notSynchronized
  have hin : meth.name = y.name := (name_of_methodNamed B.named B.method).1
  rw [lg_entry_eq]
  refine body p e s m below meth c (va_A w s.heap.size) _ s.heap [] _ B.exec B.bytes hml (atoms_spec (ws := ws) B.pre) (findClass_of_methodNamed B.named) (fun q h => Or.inr h) hK hE (hin.trans hyn) hao ?_ hP hD0.self va_S.rf (lv_entry av hlen)
  intro H locs ls pc u hP' hD' hS' hd
  exact W.vret B.exec B.bytes hr (fun t ht hW => ⟨⟨u, rfl, trivial, (by show va_P G vwCl (w' u) t.heap; rw [ht]; exact hP'), hD'⟩, hS'.F ht⟩) hS'.2.2 hd
section ZN
variable {p : Program} {l : Launch} {e : Env} {R : Room} {s : State} {m : MethodId} {args : Array Value} {below : List Frame} {meth : Method} {c : Code} {H : Heap} {locs : List Loc} {cells slots : Nat} {Q : State → Prop}
variable {cc : ByteArray} {pc : Nat} {ls : Array Slot} {rest : List Value} {D : va_G} {cl : List vw_C} {A : Nat → Prop} {a : Nat} {k : Nat → ClassId} {ws : va_W} {H0 : Heap}
theorem z_newa {a0 : vp_A} (t0 : Nat) {cK : ClassId} {ty : FieldType} (ht : (zT k)[t0]? = some (cK, ty)) (hexec : p.tables.exec = Jvm.exec) (hb : c.code = cc) {atype : ArrayType} (harr : (Cond.arrayClass (newarray.typeOf atype)).before args s = true) (hty : newarray.typeOf atype = ty) (hK : va_K D cl (zT k) s) (hP : va_P D cl ws H) (hD : va_D A ws) (hS : va_S A H0 H locs) (hA : ∀ q, H0.size ≤ q → A q)
    {n : Int32} {N' : Nat} (ha : ∀ cA : ClassId, vp_cell cA a0 = arrV cA N' (fun _ => defaultValue ty)) (hn : ¬ n < 0) (hN : n.toNatClampNeg = N') (hbytes : N' * componentBytes ty ≤ 536870912) (hcells : cells + 1 ≤ R.cells) (hslots : slots + N' ≤ R.slots) (hdg : decode cc pc = .ok (.newarray atype, 2))
    (kk : ∀ (q : Nat) (H1 : Heap), va_P D cl (ws ++ [(q, .inl (cK, a0))]) H1 → va_D A (ws ++ [(q, .inl (cK, a0))]) → va_S A H0 H1 locs → W p l e R s m args below meth c H1 locs (cells + 1) (slots + N') Q (F0 m (pc + 2) ls (.ref q :: rest))) : W p l e R s m args below meth c H locs cells slots Q (F0 m pc ls (.int n :: rest)) := by
  refine va_newa hexec hb harr hty hK hP hD hS hA ha hn hN hbytes hcells hslots hdg (fun q cA H1 hK1 hP1 hD1 hS1 => ?_)
  have e : cA = cK := z_RA (hK1.2 6 (cA, ty) rfl).2 (hK.2 t0 _ ht).2
  subst e
  exact kk q H1 hP1 hD1 hS1
theorem z_newq (t0 : Nat) {cK : ClassId} {C : String} (ht : (zT k)[t0]? = some (cK, .object C)) (hexec : p.tables.exec = Jvm.exec) (hb : c.code = cc) {own : String} {index : Nat} (hown : s.vm.findClass own = some m.cls) (hclink : (Cond.classLink own index C).before args s = true) (hover : va_AO C s) (hK : va_K D cl (zT k) s) (hP : va_P D cl ws H) (hD : va_D A ws) (hS : va_S A H0 H locs) (hA : ∀ q, H0.size ≤ q → A q)
    {n : Int32} {N' : Nat} (hn : ¬ n < 0) (hN : n.toNatClampNeg = N') (hbytes : N' * 4 ≤ 536870912) (hcells : cells + 1 ≤ R.cells) (hslots : slots + N' ≤ R.slots) (hdg : decode cc pc = .ok (.anewarray index, 3))
    (kk : ∀ (q : Nat) (H1 : Heap), va_P D cl (ws ++ [(q, .inl (cK, N', .inr (.inr (.inr (.inr (fun _ => none))))))]) H1 → va_D A (ws ++ [(q, .inl (cK, N', .inr (.inr (.inr (.inr (fun _ => none))))))]) → va_S A H0 H1 locs → W p l e R s m args below meth c H1 locs (cells + 1) (slots + N') Q (F0 m (pc + 3) ls (.ref q :: rest))) : W p l e R s m args below meth c H locs cells slots Q (F0 m pc ls (.int n :: rest)) := by
  refine va_newq hexec hb hown hclink hover hK hP hD hS hA hn hN hbytes hcells hslots hdg (fun q cA H1 hK1 hP1 hD1 hS1 => ?_)
  have e : cA = cK := z_RA (hK1.2 6 (cA, .object C) rfl).2 (hK.2 t0 _ ht).2
  subst e
  exact kk q H1 hP1 hD1 hS1
theorem z_goc {G : va_G} {w wc wr : va_W} {w' : zU → va_W} {st0 : List Value} {av : Array Value} {mc ms : Nat} (is isR : List Nat) (hr : va_Run p l e R s m args below meth c H locs cells slots mc ms (F0 m pc ls st0) rest (zQa G wc w' H.size av) (va_A wc H.size)) (hA : ∀ q, s.heap.size ≤ q → A q) (hP : va_P G vwCl w H) (hD : va_D A w) (hS : va_S A s.heap H locs) (hC : is.map (fun i => w[i]?) = wc.map some) (hR : isR.map (fun i => w[i]?) = wr.map some) (hn : va_nd isR = true) (hdis : ∀ i ∈ isR, i ∉ is)
    (kk : ∀ (u : zU) (H1 : Heap) (locs1 : List Loc), va_P G vwCl (wr ++ w' u) H1 → va_D A (wr ++ w' u) → va_S A s.heap H1 locs1 → W p l e R s m args below meth c H1 locs1 (cells + mc) (slots + ms) Q (F0 m (pc + 3) ls rest)) : W p l e R s m args below meth c H locs cells slots Q (F0 m pc ls st0) := by
  have hF := va_free hD hS hA is hC
  refine va_callv hr hS (fun q _ h => hF q h) hF (fun u t H1 locs1 ht hvm hw hB hz hk hS1 => ?_)
  obtain ⟨hP1, hD1⟩ := hB
  rw [ht] at hP1
  obtain ⟨hP2, hD2⟩ := va_join (wr := wr) (w1 := w' u) hP hD is isR hC hR hn hdis hk hF hP1 hD1
  exact kk u H1 locs1 hP2 hD2 hS1
theorem z_govc {G : va_G} {w wc wc' w2 : va_W} {st0 : List Value} {av : Array Value} (is : List Nat) (hr : va_Run p l e R s m args below meth c H locs cells slots 0 0 (F0 m pc ls st0) rest (zQv G wc wc' H.size av) (va_A wc H.size)) (hA : ∀ q, s.heap.size ≤ q → A q) (hP : va_P G vwCl w H) (hD : va_D A w) (hS : va_S A s.heap H locs) (hC : is.map (fun i => w[i]?) = wc.map some) (hl : is.length = wc'.length) (h2 : zset w (is.zip wc') = w2) (hd : w2.map (fun q => q.1) = w.map (fun q => q.1))
    (kk : ∀ (H1 : Heap) (locs1 : List Loc), va_P G vwCl w2 H1 → va_D A w2 → va_S A s.heap H1 locs1 → W p l e R s m args below meth c H1 locs1 cells slots Q (F0 m (pc + 3) ls rest)) : W p l e R s m args below meth c H locs cells slots Q (F0 m pc ls st0) := by
  have hF := va_free hD hS hA is hC
  refine va_callv hr hS (fun q _ h => hF q h) hF (fun u t H1 locs1 ht hvm hw hB hz hk hS1 => ?_)
  rw [ht] at hB
  have hP2 := z_join hP hD hC hl hk hB
  rw [h2] at hP2
  exact kk H1 locs1 hP2 (z_D hD hd) hS1
end ZN
theorem z_up2 (a b : Nat) : va_up (va_up (fun _ => (none : Option Nat)) 0 (some a)) 1 (some b) = (fun j => if j = 0 then some a else if j = 1 then some b else none) := by
  funext j
  unfold va_up
  by_cases h0 : j = 0
  · subst h0; rfl
  · by_cases h1 : j = 1
    · subst h1; rfl
    · simp [h0, h1]
theorem z_up4 (a b c d : Nat) : va_up (va_up (va_up (va_up (fun _ => (none : Option Nat)) 0 (some a)) 1 (some b)) 2 (some c)) 3 (some d) = (fun j => if j = 0 then some a else if j = 1 then some b else if j = 2 then some c else if j = 3 then some d else none) := by
  funext j
  unfold va_up
  by_cases h0 : j = 0
  · subst h0; rfl
  · by_cases h1 : j = 1
    · subst h1; rfl
    · by_cases h2 : j = 2
      · subst h2; rfl
      · by_cases h3 : j = 3
        · subst h3; rfl
        · simp [h0, h1, h2, h3]
