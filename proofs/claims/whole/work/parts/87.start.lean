/-! THE LAW'S ENTRY: what the Statement gives of the start, the two objects made -/
theorem zAO.moved {u U : State} (hvm : u.vm.Alike U.vm) (h : zAO u) : zAO U := ⟨va_AO.moved hvm h.1, va_AO.moved hvm h.2⟩
theorem z_preX {s : State} {G : va_G} {k : Nat → ClassId} {tL tM : Nat} {sK sV : Nat → Nat} {w wc : va_W} {H : Heap} {locs : List Loc} {A : Nat → Prop} {av : List Value} (is : List Nat) (hao : zAO s) (hK : va_K G vwCl (zT k) s) (hE : zE tL tM sK sV A s s.heap) (hA : ∀ q, s.heap.size ≤ q → A q) (hP : va_P G vwCl w H) (hD : va_D A w) (hS : va_S A s.heap H locs) (hn : va_nd is = true) (hC : is.map (fun i => w[i]?) = wc.map some) : PreS s H (va_Pc av (fun U => zB G k tL tM sK sV wc H.size U ∧ zAO U)) av := by
  refine ⟨fun a U g mk q => ?_, fun U hU hW => ?_⟩
  · obtain ⟨q0, q1, q2⟩ := q
    have z := z_blind (av := av) a U g mk ⟨q0, q1⟩
    exact ⟨q0, z.2, zAO.moved (u := U) (U := U.calling g mk a) (Vm.Alike.refl U.vm) q2⟩
  · have z := z_pre hK hE hA hP hD hS hn hC av U hU hW
    exact ⟨z.1, z.2, zAO.moved hW.alike hao⟩
theorem arr_ex {args : Array Value} {s : State} {ty : FieldType} (h : (Cond.arrayClass ty).before args s = true) : ∃ cA, ArrOfT s cA ty ∧ s.vm.findClass ("[" ++ ty.toString) = some cA := by
  obtain ⟨c, k, comp, h1, h2, h3⟩ := Cond.arrayClass_spec h
  exact ⟨c, fun n z => ⟨fun k h => (by cases h), k, h2, comp, h3⟩, h1⟩
theorem arr_exO {args : Array Value} {s : State} {C : String} (h : (Cond.arrayOver (.object C)).before args s = true) : ∃ cA, ArrOfT s cA (.object C) ∧ va_RA s cA (.object C) := by
  obtain ⟨comp, c, k, h1, h2, h3, h4, h5⟩ := Cond.arrayOver_spec h
  exact ⟨c, fun n z => ⟨fun k h => (by cases h), k, h3, comp, h4⟩, k, comp, h3, h4, h1, h5⟩
theorem k_st (w : Cond) (hw : w ∈ znw) : w ∈ lw_tbl ∧ w.onTables = true := (by decide +kernel : ∀ w ∈ znw, w ∈ lw_tbl ∧ w.onTables = true) w hw
theorem k_L (j : Nat) (hj : j < 4) : Cond.eq (.elem (.static "SpireLean" "LEAST" "[I") (.int (Int32.ofNat j))) (.int (zgL j)) ∈ flatC (Jvm.Cond.and given_1 narrow_1) := (by decide +kernel : ∀ j, j < 4 → Cond.eq (.elem (.static "SpireLean" "LEAST" "[I") (.int (Int32.ofNat j))) (.int (zgL j)) ∈ flatC (Jvm.Cond.and given_1 narrow_1)) j hj
theorem k_M (j : Nat) (hj : j < 4) : Cond.eq (.elem (.static "SpireLean" "MOST" "[I") (.int (Int32.ofNat j))) (.int (zgM j)) ∈ flatC (Jvm.Cond.and given_1 narrow_1) := (by decide +kernel : ∀ j, j < 4 → Cond.eq (.elem (.static "SpireLean" "MOST" "[I") (.int (Int32.ofNat j))) (.int (zgM j)) ∈ flatC (Jvm.Cond.and given_1 narrow_1)) j hj
def ztm (i : Nat) : Term := .string "SpireLean$Tape" (zsi i)
theorem k_s1 : ∀ i, i < 7 → Cond.exactly (ztm i) "java/lang/String" ∈ flatC (Jvm.Cond.and given_1 narrow_1) := by decide +kernel
theorem k_s2 : ∀ i, i < 7 → Cond.eq (.field (ztm i) "java/lang/String" "coder" "B") (.int 0) ∈ flatC (Jvm.Cond.and given_1 narrow_1) := by decide +kernel
theorem k_s3 : ∀ i, i < 7 → Cond.arrayOf (.field (ztm i) "java/lang/String" "value" "[B") .byte ∈ flatC (Jvm.Cond.and given_1 narrow_1) := by decide +kernel
theorem k_s4 : ∀ i, i < 7 → Cond.eq (.length (.field (ztm i) "java/lang/String" "value" "[B")) (.int (Int32.ofNat (zln.getD i 0))) ∈ flatC (Jvm.Cond.and given_1 narrow_1) := by decide +kernel
theorem k_s5 : ∀ i, i < 7 → ∀ j, j < zln.getD i 0 → Cond.eq (.elem (.field (ztm i) "java/lang/String" "value" "[B") (.int (Int32.ofNat j))) (.int ((zby.getD i []).getD j 0)) ∈ flatC (Jvm.Cond.and given_1 narrow_1) := by decide +kernel
theorem k_s6 : ∀ i, i < 7 → ∀ j, j < 7 → i ≠ j → Cond.not (Cond.eq (ztm i) (ztm j)) ∈ flatC (Jvm.Cond.and given_1 narrow_1) ∨ Cond.not (Cond.eq (ztm j) (ztm i)) ∈ flatC (Jvm.Cond.and given_1 narrow_1) := by decide +kernel
theorem k_s7 : ∀ i, i < 7 → Cond.stringRef "SpireLean$Tape" (zsi i) (zst i) ∈ lw_tbl := by decide +kernel
theorem k_s8 : ∀ i, i < 7 → zln.getD i 0 < 2 ^ 31 := by decide
set_option maxHeartbeats 4000000 in
theorem zE_start {s : State} {b : Nat} (hts : ∀ w ∈ lw_tbl, w.before #[Value.ref b] s = true) (hgv : (Jvm.Cond.and given_1 narrow_1).before #[Value.ref b] s = true) : ∃ (tL tM : Nat) (sK sV : Nat → Nat), zE tL tM sK sV (fun q : Nat => s.heap.size ≤ q) s s.heap := by
  have hs := flat_of_before _ hgv
  have hA : ∀ a : Nat, a < s.heap.size → ¬ (fun q : Nat => s.heap.size ≤ q) a := fun a h => Nat.not_le.mpr h
  obtain ⟨tL, eL, TL⟩ := va_Tof (args := #[Value.ref b]) (s := s) (tm := .static "SpireLean" "LEAST" "[I") (ty := .int) (N := 4) (f := fun j => .int (zgL j)) (by decide) (hs _ (by decide +kernel)) (va_eqt (hs _ (by decide +kernel))) (fun j hj => va_eqt (hs _ (k_L j hj))) hA
  obtain ⟨tM, eM, TM⟩ := va_Tof (args := #[Value.ref b]) (s := s) (tm := .static "SpireLean" "MOST" "[I") (ty := .int) (N := 4) (f := fun j => .int (zgM j)) (by decide) (hs _ (by decide +kernel)) (va_eqt (hs _ (by decide +kernel))) (fun j hj => va_eqt (hs _ (k_M j hj))) hA
  obtain ⟨sK, sV, hS, hSe⟩ := vk_Sof (args := #[Value.ref b]) (s := s) (N := 7) (tm := ztm) (len := zln) (byt := zby) k_s8 (fun i hi => hs _ (k_s1 i hi)) (fun i hi => hs _ (k_s2 i hi)) (fun i hi => hs _ (k_s3 i hi)) (fun i hi => hs _ (k_s4 i hi)) (fun i hi j hj => hs _ (k_s5 i hi j hj)) (fun i j hi hj hij => (k_s6 i hi j hj hij).imp (hs _) (hs _)) hA
  refine ⟨tL, tM, sK, sV, fun w hw => va_Nw.of (k_st w hw).2 (hts w (k_st w hw).1), va_Zref (hts (.laysStatic "SpireLean" "LEAST" "[I") (by decide +kernel)) (hts (.initialized "SpireLean") (by decide +kernel)) eL hA, va_Zref (hts (.laysStatic "SpireLean" "MOST" "[I") (by decide +kernel)) (hts (.initialized "SpireLean") (by decide +kernel)) eM hA, TL, TM, fun i hi => vk_R.of (hts _ (k_s7 i hi)) (hSe i hi), hS, va_Zof (hts (.laysStatic "java/lang/String" "COMPACT_STRINGS" "Z") (by decide +kernel)) (hts (.initialized "java/lang/String") (by decide +kernel)) (va_eqi (hs _ (by decide +kernel))) hA, va_Zqof (hts (.laysStatic "jdk/internal/util/Preconditions" "SIOOBE_FORMATTER" "Ljava/util/function/BiFunction;") (by decide +kernel)) (hts (.initialized "jdk/internal/util/Preconditions") (by decide +kernel)) (hs _ (by decide +kernel)) hA⟩
set_option maxHeartbeats 4000000 in
theorem zK_start {s : State} {b : Nat} (hts : ∀ w ∈ lw_tbl, w.before #[Value.ref b] s = true) : ∃ (G : va_G) (k : Nat → ClassId), va_K G vwCl (zT k) s ∧ zAO s := by
  obtain ⟨c0, iS0, hK0⟩ := u_known (C := RX0) (T := TX0) (N := 3) (n := 3) hts wl_X0 (hts (.instantiable RX0 3) (by decide +kernel))
  obtain ⟨c1, iS1, hK1⟩ := u_known (C := RX1) (T := TX1) (N := 3) (n := 3) hts wl_X1 (hts (.instantiable RX1 3) (by decide +kernel))
  obtain ⟨c2, iS2, hK2⟩ := u_known (C := RX2) (T := TX2) (N := 3) (n := 3) hts wl_X2 (hts (.instantiable RX2 3) (by decide +kernel))
  obtain ⟨c3, iS3, hK3⟩ := u_known (C := RX3) (T := TX3) (N := 9) (n := 9) hts wl_X3 (hts (.instantiable RX3 9) (by decide +kernel))
  obtain ⟨c4, iS4, hK4⟩ := u_known (C := RX4) (T := TX4) (N := 7) (n := 7) hts wl_X4 (hts (.instantiable RX4 7) (by decide +kernel))
  obtain ⟨c5, iS5, hK5⟩ := u_known (C := RX5) (T := TX5) (N := 12) (n := 12) hts wl_X5 (hts (.instantiable RX5 12) (by decide +kernel))
  obtain ⟨c6, iS6, hK6⟩ := u_known (C := RX6) (T := TX6) (N := 26) (n := 26) hts wl_X6 (hts (.instantiable RX6 26) (by decide +kernel))
  have w4 := hts (.arrayOver (.object "SpireLean$Town")) (by decide +kernel)
  have w5 := hts (.arrayOver (.object "SpireLean$Sheet")) (by decide +kernel)
  obtain ⟨k0, a0, b0⟩ := arr_ex (hts (.arrayClass .int) (by decide +kernel))
  obtain ⟨k1, a1, b1⟩ := arr_ex (hts (.arrayClass .byte) (by decide +kernel))
  obtain ⟨k2, a2, b2⟩ := arr_ex (hts (.arrayClass .long) (by decide +kernel))
  obtain ⟨k3, a3, b3⟩ := arr_ex (hts (.arrayClass .boolean) (by decide +kernel))
  obtain ⟨k4, a4, b4⟩ := arr_exO w4
  obtain ⟨k5, a5, b5⟩ := arr_exO w5
  refine ⟨(fun j => if j = 0 then c0 else if j = 1 then c1 else if j = 2 then c2 else if j = 3 then c3 else if j = 4 then c4 else if j = 5 then c5 else c6, fun j => if j = 0 then iS0 else if j = 1 then iS1 else if j = 2 then iS2 else if j = 3 then iS3 else if j = 4 then iS4 else if j = 5 then iS5 else iS6), fun j => if j = 0 then k0 else if j = 1 then k1 else if j = 2 then k2 else if j = 3 then k3 else if j = 4 then k4 else k5, ⟨?_, ?_⟩, w4, w5⟩
  · intro j q hq
    match j, hq with
    | 0, hq => cases hq; exact hK0
    | 1, hq => cases hq; exact hK1
    | 2, hq => cases hq; exact hK2
    | 3, hq => cases hq; exact hK3
    | 4, hq => cases hq; exact hK4
    | 5, hq => cases hq; exact hK5
    | 6, hq => cases hq; exact hK6
    | j + 7, hq => simp at hq
  · intro j q hq
    match j, hq with
    | 0, hq => cases hq; exact ⟨a0, b0⟩
    | 1, hq => cases hq; exact ⟨a1, b1⟩
    | 2, hq => cases hq; exact ⟨a2, b2⟩
    | 3, hq => cases hq; exact ⟨a3, b3⟩
    | 4, hq => cases hq; exact ⟨a4, b4⟩
    | 5, hq => cases hq; exact ⟨a5, b5⟩
    | j + 6, hq => simp at hq
