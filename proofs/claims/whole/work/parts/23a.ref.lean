set_option maxHeartbeats 4000000 in
set_option maxRecDepth 100000 in
theorem c_X6_in (l : Launch) (G : va_G) (k : Nat → ClassId) (tL tM : Nat) (sK sV : Nat → Nat) (sz : Nat) (u1 : Int64) (u2 : Int64) (u3 : Int64) (out : Int32) (h : p_X6_in u1 u2 u3 = some out) : zMi l yX6_in wsX6_in 0 0 G k tL tM sK sV [.long u1, .long u2, .long u3] [] [] out sz := by
  refine z_metz (cc := cX6_in) (maxL := 6) (by decide) rfl (Nat.le_of_ble_eq_true rfl) ?_
  intro p e s m below meth c A Q H locs ls hx hb hml hts hown hA hK hE hret hP hD hS hl
  have hown : s.vm.findClass RX6 = some m.cls := hown
  have hl : lv_has ls 6 [(0, .long u1), (2, .long u2), (4, .long u3)] := hl
  unfold p_X6_in at h
  refine lv_lload_n hx hb dX6_in_0 rfl (lv_at hl 0 rfl) ?_
  refine lv_lload_n hx hb dX6_in_1 rfl (lv_at hl 1 rfl) ?_
  refine W.lcmp hx hb dX6_in_2 ?_
  refine lv_if_lt (tgt := 17) hx hb dX6_in_3 (by decide) (fun c2 => ?_) (fun c2 => ?_)
  · have h := zit c2 h
    refine lv_iconst (v := 0) hx hb dX6_in_17 (by decide) ?_
    have hr := (zs h)
    subst hr
    exact hret H locs ls 18 (Or.inl rfl) hP hS dX6_in_18
  · have h := zif c2 h
    refine lv_lload_n hx hb dX6_in_6 rfl (lv_at hl 0 rfl) ?_
    refine lv_lload hx hb dX6_in_7 (lv_at hl 2 rfl) ?_
    refine W.lcmp hx hb dX6_in_9 ?_
    refine lv_if_gt (tgt := 17) hx hb dX6_in_10 (by decide) (fun c1 => ?_) (fun c1 => ?_)
    · have h := zit c1 h
      refine lv_iconst (v := 0) hx hb dX6_in_17 (by decide) ?_
      have hr := (zs h)
      subst hr
      exact hret H locs ls 18 (Or.inl rfl) hP hS dX6_in_18
    · have h := zif c1 h
      refine lv_iconst (v := 1) hx hb dX6_in_13 (by decide) ?_
      refine lv_goto (tgt := 18) hx hb dX6_in_14 (by decide) ?_
      have hr := (zs h)
      subst hr
      exact hret H locs ls 18 (Or.inr rfl) hP hS dX6_in_18
theorem iw_X6_feed_X6 : ∀ w ∈ wsX60, w ∈ wsX6_feed := fun _ h => List.mem_cons_of_mem _ (List.mem_append_right _ h)
set_option maxHeartbeats 4000000 in
set_option maxRecDepth 100000 in
theorem c_X6_feed (l : Launch) (G : va_G) (k : Nat → ClassId) (tL tM : Nat) (sK sV : Nat → Nat) (a_m : Nat) (a_m_state : Nat) (a_m_readPage : Nat) (a_m_tape : Nat) (a_m_cuts : Nat) (a_m_letters : Nat) (a_m_seen : Nat) (a_m_pointBy : Nat) (a_m_isKept : Nat) (a_m_lanes : Nat) (a_m_lengths : Nat) (a_m_sheetCells : Nat) (sz : Nat) (m_toldOnce : Int32) (m_taped : Int32) (m_fault : Int32) (m_broken : Int32) (m_brokenAt : Int32) (m_spot : Int32) (m_here : Int32) (m_token : Int32) (m_value : Int32) (m_silent : Int32) (m_greatest : Int32) (m_moves : Int32) (m_holders : Int32) (m_seenMany : Int32) (m_torn : Int32) (m_tape : Nat → Int32) (u1 : Int32) (out : Int32 × Int32 × (Nat → Int32)) (h : p_X6_feed u1 m_taped m_tape = some out) : zMi l yX6_feed wsX6_feed 1 25 G k tL tM sK sV [.ref a_m, .int u1] [(a_m, .inr (6, [.ref a_m_state, .ref a_m_readPage, .int m_toldOnce, .ref a_m_tape, .int m_taped, .int m_fault, .int m_broken, .int m_brokenAt, .int m_spot, .int m_here, .int m_token, .int m_value, .ref a_m_cuts, .ref a_m_letters, .int m_silent, .int m_greatest, .int m_moves, .int m_holders, .ref a_m_seen, .int m_seenMany, .ref a_m_pointBy, .ref a_m_isKept, .ref a_m_lanes, .ref a_m_lengths, .ref a_m_sheetCells, .int m_torn])), (a_m_tape, .inl (k 0, 160, .inl m_tape))] [(a_m, .inr (6, [.ref a_m_state, .ref a_m_readPage, .int m_toldOnce, .ref a_m_tape, .int out.2.1, .int m_fault, .int m_broken, .int m_brokenAt, .int m_spot, .int m_here, .int m_token, .int m_value, .ref a_m_cuts, .ref a_m_letters, .int m_silent, .int m_greatest, .int m_moves, .int m_holders, .ref a_m_seen, .int m_seenMany, .ref a_m_pointBy, .ref a_m_isKept, .ref a_m_lanes, .ref a_m_lengths, .ref a_m_sheetCells, .int m_torn])), (a_m_tape, .inl (k 0, 160, .inl out.2.2))] out.1 sz := by
  refine z_meti (cc := cX6_feed) (maxL := 2) (by decide) rfl (Nat.le_of_ble_eq_true rfl) ?_
  intro p e s m below meth c A Q H locs ls hx hb hml hts hown hA hK hE hret hP hD hS hl
  have hown : s.vm.findClass RX6 = some m.cls := hown
  have hl : lv_has ls 2 [(0, .ref a_m), (1, .int u1)] := hl
  unfold p_X6_feed at h
  refine lv_iload_n hx hb dX6_feed_0 rfl (lv_at hl 1 rfl) ?_
  refine lv_i2l (v := u1.toInt64) hx hb dX6_feed_1 rfl ?_
  refine lv_lconst (v := 0) hx hb dX6_feed_2 (by decide) ?_
  refine lv_ldc2 hx hb hown (hts (.constantLong RX6 48 (127)) (List.mem_of_getElem? (i := 1) rfl)) dX6_feed_3 ?_
  obtain ⟨o1, hv, h⟩ := zb h
  refine z_goi (w2 := [(a_m, .inr (6, [.ref a_m_state, .ref a_m_readPage, .int m_toldOnce, .ref a_m_tape, .int m_taped, .int m_fault, .int m_broken, .int m_brokenAt, .int m_spot, .int m_here, .int m_token, .int m_value, .ref a_m_cuts, .ref a_m_letters, .int m_silent, .int m_greatest, .int m_moves, .int m_holders, .ref a_m_seen, .int m_seenMany, .ref a_m_pointBy, .ref a_m_isKept, .ref a_m_lanes, .ref a_m_lengths, .ref a_m_sheetCells, .int m_torn])), (a_m_tape, .inl (k 0, 160, .inl m_tape))]) [] (va_runS (As := [.long u1.toInt64, .long (0 : Int64), .long (127 : Int64)]) (rest := []) ⟨hx, hb, hml, hown, hts⟩ (c_X6_in l G k tL tM sK sV H.size u1.toInt64 (0 : Int64) (127 : Int64) o1 hv) (va_cwS 3 hts gX6_feed_X6_in rfl rfl rfl (by decide +kernel) ⟨Nat.le_of_ble_eq_true rfl, Nat.le_of_ble_eq_true rfl⟩) (z_preS (wc := []) [] hK hE hA hP hD hS (by decide) rfl) rfl rfl hl.1 rfl (lv_room (Nat.le_of_ble_eq_true rfl)) dX6_feed_6 ⟨Nat.le_refl _, Nat.le_refl _⟩) hA hP hD hS rfl rfl rfl rfl (fun H locs hP hD hS => ?_)
  refine lv_if_ne (tgt := 14) hx hb dX6_feed_9 (by decide) (fun c4 => ?_) (fun c4 => ?_)
  · have h := zif c4 h
    refine lv_aload_n hx hb dX6_feed_14 rfl (lv_at hl 0 rfl) ?_
    refine va_get (D := G) (ci := 6) (v := .int m_taped) (C := RX6) (T := TX6) (N := 26) hx hb hts iw_X6_feed_X6 hown hK hP 0 rfl rfl 4 (by decide) (hts (.fieldLink RX6 54 "SpireLeanModel" "taped" "I") (List.mem_of_getElem? (i := 2) rfl)) (fun _ h9 => h9) rfl dX6_feed_15 ?_
    refine lv_sipush (v := 160) hx hb dX6_feed_18 (by decide) ?_
    refine lv_icmp_ne (tgt := 27) hx hb dX6_feed_21 (by decide) (fun c3 => ?_) (fun c3 => ?_)
    · have h := zif c3 h
      refine lv_aload_n hx hb dX6_feed_27 rfl (lv_at hl 0 rfl) ?_
      refine va_get (D := G) (ci := 6) (v := .ref a_m_tape) (C := RX6) (T := TX6) (N := 26) hx hb hts iw_X6_feed_X6 hown hK hP 0 rfl rfl 3 (by decide) (hts (.fieldLink RX6 16 "SpireLeanModel" "tape" "[I") (List.mem_of_getElem? (i := 3) rfl)) (fun _ h9 => h9) rfl dX6_feed_28 ?_
      refine lv_aload_n hx hb dX6_feed_31 rfl (lv_at hl 0 rfl) ?_
      refine va_get (D := G) (ci := 6) (v := .int m_taped) (C := RX6) (T := TX6) (N := 26) hx hb hts iw_X6_feed_X6 hown hK hP 0 rfl rfl 4 (by decide) (hts (.fieldLink RX6 54 "SpireLeanModel" "taped" "I") (List.mem_of_getElem? (i := 2) rfl)) (fun _ h9 => h9) rfl dX6_feed_32 ?_
      refine lv_iload_n hx hb dX6_feed_35 rfl (lv_at hl 1 rfl) ?_
      obtain ⟨v2, hv, h⟩ := zb h
      refine z_iast hx hb hK hP hD hS 1 0 rfl rfl hv dX6_feed_36 (fun H locs hP hD hS => ?_)
      have hP : va_P G vwCl [(a_m, .inr (6, [.ref a_m_state, .ref a_m_readPage, .int m_toldOnce, .ref a_m_tape, .int m_taped, .int m_fault, .int m_broken, .int m_brokenAt, .int m_spot, .int m_here, .int m_token, .int m_value, .ref a_m_cuts, .ref a_m_letters, .int m_silent, .int m_greatest, .int m_moves, .int m_holders, .ref a_m_seen, .int m_seenMany, .ref a_m_pointBy, .ref a_m_isKept, .ref a_m_lanes, .ref a_m_lengths, .ref a_m_sheetCells, .int m_torn])), (a_m_tape, .inl (k 0, 160, .inl v2))] H := hP
      have hD : va_D A [(a_m, .inr (6, [.ref a_m_state, .ref a_m_readPage, .int m_toldOnce, .ref a_m_tape, .int m_taped, .int m_fault, .int m_broken, .int m_brokenAt, .int m_spot, .int m_here, .int m_token, .int m_value, .ref a_m_cuts, .ref a_m_letters, .int m_silent, .int m_greatest, .int m_moves, .int m_holders, .ref a_m_seen, .int m_seenMany, .ref a_m_pointBy, .ref a_m_isKept, .ref a_m_lanes, .ref a_m_lengths, .ref a_m_sheetCells, .int m_torn])), (a_m_tape, .inl (k 0, 160, .inl v2))] := hD
      refine lv_aload_n hx hb dX6_feed_37 rfl (lv_at hl 0 rfl) ?_
      refine lv_dup hx hb dX6_feed_38 rfl ?_
      refine va_get (D := G) (ci := 6) (v := .int m_taped) (C := RX6) (T := TX6) (N := 26) hx hb hts iw_X6_feed_X6 hown hK hP 0 rfl rfl 4 (by decide) (hts (.fieldLink RX6 54 "SpireLeanModel" "taped" "I") (List.mem_of_getElem? (i := 2) rfl)) (fun _ h9 => h9) rfl dX6_feed_39 ?_
      refine lv_iconst (v := 1) hx hb dX6_feed_42 (by decide) ?_
      refine lv_iadd hx hb dX6_feed_43 ?_
      refine va_put (D := G) (ci := 6) (v := .int (m_taped + (1 : Int32))) (ty := .int) (C := RX6) (T := TX6) (N := 26) hx hb hts iw_X6_feed_X6 tyX6 tyX6_ok nmX6 hown hK hP hD hS 0 rfl rfl 4 (by decide) (hts (.fieldLink RX6 54 "SpireLeanModel" "taped" "I") (List.mem_of_getElem? (i := 2) rfl)) (fun _ h9 => h9) rfl (tyX6_ok 4 (by decide)) rfl rfl (Nat.le_of_ble_eq_true rfl) dX6_feed_44 (fun H locs hP hD hS => ?_)
      have hP : va_P G vwCl [(a_m, .inr (6, [.ref a_m_state, .ref a_m_readPage, .int m_toldOnce, .ref a_m_tape, .int (m_taped + (1 : Int32)), .int m_fault, .int m_broken, .int m_brokenAt, .int m_spot, .int m_here, .int m_token, .int m_value, .ref a_m_cuts, .ref a_m_letters, .int m_silent, .int m_greatest, .int m_moves, .int m_holders, .ref a_m_seen, .int m_seenMany, .ref a_m_pointBy, .ref a_m_isKept, .ref a_m_lanes, .ref a_m_lengths, .ref a_m_sheetCells, .int m_torn])), (a_m_tape, .inl (k 0, 160, .inl v2))] H := hP
      have hD : va_D A [(a_m, .inr (6, [.ref a_m_state, .ref a_m_readPage, .int m_toldOnce, .ref a_m_tape, .int (m_taped + (1 : Int32)), .int m_fault, .int m_broken, .int m_brokenAt, .int m_spot, .int m_here, .int m_token, .int m_value, .ref a_m_cuts, .ref a_m_letters, .int m_silent, .int m_greatest, .int m_moves, .int m_holders, .ref a_m_seen, .int m_seenMany, .ref a_m_pointBy, .ref a_m_isKept, .ref a_m_lanes, .ref a_m_lengths, .ref a_m_sheetCells, .int m_torn])), (a_m_tape, .inl (k 0, 160, .inl v2))] := hD
      refine lv_aload_n hx hb dX6_feed_47 rfl (lv_at hl 0 rfl) ?_
      refine va_get (D := G) (ci := 6) (v := .int (m_taped + (1 : Int32))) (C := RX6) (T := TX6) (N := 26) hx hb hts iw_X6_feed_X6 hown hK hP 0 rfl rfl 4 (by decide) (hts (.fieldLink RX6 54 "SpireLeanModel" "taped" "I") (List.mem_of_getElem? (i := 2) rfl)) (fun _ h9 => h9) rfl dX6_feed_48 ?_
      have hr := (zs h)
      subst hr
      exact hret H locs ls 51 hP hS dX6_feed_51
    · have h := zit c3 h
      refine lv_bipush (v := (-3)) hx hb dX6_feed_24 (by decide) ?_
      have hr := (zs h)
      subst hr
      exact hret H locs ls 26 hP hS dX6_feed_26
  · have h := zit c4 h
    refine lv_iconst (v := (-1)) hx hb dX6_feed_12 (by decide) ?_
    have hr := (zs h)
    subst hr
    exact hret H locs ls 13 hP hS dX6_feed_13
theorem iw_X6_end_X6 : ∀ w ∈ wsX60, w ∈ wsX6_end := fun _ h => List.mem_cons_of_mem _ (List.mem_append_right _ h)
set_option maxHeartbeats 4000000 in
set_option maxRecDepth 100000 in
theorem c_X6_end (l : Launch) (G : va_G) (k : Nat → ClassId) (tL tM : Nat) (sK sV : Nat → Nat) (a_m : Nat) (a_m_state : Nat) (a_m_readPage : Nat) (a_m_tape : Nat) (a_m_cuts : Nat) (a_m_letters : Nat) (a_m_seen : Nat) (a_m_pointBy : Nat) (a_m_isKept : Nat) (a_m_lanes : Nat) (a_m_lengths : Nat) (a_m_sheetCells : Nat) (sz : Nat) (m_toldOnce : Int32) (m_taped : Int32) (m_fault : Int32) (m_broken : Int32) (m_brokenAt : Int32) (m_spot : Int32) (m_here : Int32) (m_token : Int32) (m_value : Int32) (m_silent : Int32) (m_greatest : Int32) (m_moves : Int32) (m_holders : Int32) (m_seenMany : Int32) (m_torn : Int32) (u1 : Int32) (out : Int32 × Int32) (h : p_X6_end u1 m_taped = some out) : zMi l yX6_end wsX6_end 1 25 G k tL tM sK sV [.ref a_m, .int u1] [(a_m, .inr (6, [.ref a_m_state, .ref a_m_readPage, .int m_toldOnce, .ref a_m_tape, .int m_taped, .int m_fault, .int m_broken, .int m_brokenAt, .int m_spot, .int m_here, .int m_token, .int m_value, .ref a_m_cuts, .ref a_m_letters, .int m_silent, .int m_greatest, .int m_moves, .int m_holders, .ref a_m_seen, .int m_seenMany, .ref a_m_pointBy, .ref a_m_isKept, .ref a_m_lanes, .ref a_m_lengths, .ref a_m_sheetCells, .int m_torn]))] [(a_m, .inr (6, [.ref a_m_state, .ref a_m_readPage, .int m_toldOnce, .ref a_m_tape, .int out.2, .int m_fault, .int m_broken, .int m_brokenAt, .int m_spot, .int m_here, .int m_token, .int m_value, .ref a_m_cuts, .ref a_m_letters, .int m_silent, .int m_greatest, .int m_moves, .int m_holders, .ref a_m_seen, .int m_seenMany, .ref a_m_pointBy, .ref a_m_isKept, .ref a_m_lanes, .ref a_m_lengths, .ref a_m_sheetCells, .int m_torn]))] out.1 sz := by
  refine z_meti (cc := cX6_end) (maxL := 3) (by decide) rfl (Nat.le_of_ble_eq_true rfl) ?_
  intro p e s m below meth c A Q H locs ls hx hb hml hts hown hA hK hE hret hP hD hS hl
  have hown : s.vm.findClass RX6 = some m.cls := hown
  have hl : lv_has ls 3 [(0, .ref a_m), (1, .int u1)] := hl
  unfold p_X6_end at h
  refine lv_iload_n hx hb dX6_end_0 rfl (lv_at hl 1 rfl) ?_
  refine lv_i2l (v := u1.toInt64) hx hb dX6_end_1 rfl ?_
  refine lv_lconst (v := 0) hx hb dX6_end_2 (by decide) ?_
  refine lv_aload_n hx hb dX6_end_3 rfl (lv_at hl 0 rfl) ?_
  refine va_get (D := G) (ci := 6) (v := .int m_taped) (C := RX6) (T := TX6) (N := 26) hx hb hts iw_X6_end_X6 hown hK hP 0 rfl rfl 4 (by decide) (hts (.fieldLink RX6 54 "SpireLeanModel" "taped" "I") (List.mem_of_getElem? (i := 1) rfl)) (fun _ h9 => h9) rfl dX6_end_4 ?_
  refine lv_i2l (v := m_taped.toInt64) hx hb dX6_end_7 rfl ?_
  obtain ⟨o1, hv, h⟩ := zb h
  refine z_goi (w2 := [(a_m, .inr (6, [.ref a_m_state, .ref a_m_readPage, .int m_toldOnce, .ref a_m_tape, .int m_taped, .int m_fault, .int m_broken, .int m_brokenAt, .int m_spot, .int m_here, .int m_token, .int m_value, .ref a_m_cuts, .ref a_m_letters, .int m_silent, .int m_greatest, .int m_moves, .int m_holders, .ref a_m_seen, .int m_seenMany, .ref a_m_pointBy, .ref a_m_isKept, .ref a_m_lanes, .ref a_m_lengths, .ref a_m_sheetCells, .int m_torn]))]) [] (va_runS (As := [.long u1.toInt64, .long (0 : Int64), .long m_taped.toInt64]) (rest := []) ⟨hx, hb, hml, hown, hts⟩ (c_X6_in l G k tL tM sK sV H.size u1.toInt64 (0 : Int64) m_taped.toInt64 o1 hv) (va_cwS 3 hts gX6_end_X6_in rfl rfl rfl (by decide +kernel) ⟨Nat.le_of_ble_eq_true rfl, Nat.le_of_ble_eq_true rfl⟩) (z_preS (wc := []) [] hK hE hA hP hD hS (by decide) rfl) rfl rfl hl.1 rfl (lv_room (Nat.le_of_ble_eq_true rfl)) dX6_end_8 ⟨Nat.le_refl _, Nat.le_refl _⟩) hA hP hD hS rfl rfl rfl rfl (fun H locs hP hD hS => ?_)
  refine lv_if_ne (tgt := 16) hx hb dX6_end_11 (by decide) (fun c2 => ?_) (fun c2 => ?_)
  · have h := zif c2 h
    refine lv_aload_n hx hb dX6_end_16 rfl (lv_at hl 0 rfl) ?_
    refine va_get (D := G) (ci := 6) (v := .int m_taped) (C := RX6) (T := TX6) (N := 26) hx hb hts iw_X6_end_X6 hown hK hP 0 rfl rfl 4 (by decide) (hts (.fieldLink RX6 54 "SpireLeanModel" "taped" "I") (List.mem_of_getElem? (i := 1) rfl)) (fun _ h9 => h9) rfl dX6_end_17 ?_
    refine lv_istore_n (lv' := [(2, .int m_taped), (0, .ref a_m), (1, .int u1)]) hx hb dX6_end_20 rfl hl (by decide) rfl (fun ls hl => ?_)
    refine lv_aload_n hx hb dX6_end_21 rfl (lv_at hl 1 rfl) ?_
    refine lv_iload_n hx hb dX6_end_22 rfl (lv_at hl 2 rfl) ?_
    refine va_put (D := G) (ci := 6) (v := .int u1) (ty := .int) (C := RX6) (T := TX6) (N := 26) hx hb hts iw_X6_end_X6 tyX6 tyX6_ok nmX6 hown hK hP hD hS 0 rfl rfl 4 (by decide) (hts (.fieldLink RX6 54 "SpireLeanModel" "taped" "I") (List.mem_of_getElem? (i := 1) rfl)) (fun _ h9 => h9) rfl (tyX6_ok 4 (by decide)) rfl rfl (Nat.le_of_ble_eq_true rfl) dX6_end_23 (fun H locs hP hD hS => ?_)
    have hP : va_P G vwCl [(a_m, .inr (6, [.ref a_m_state, .ref a_m_readPage, .int m_toldOnce, .ref a_m_tape, .int u1, .int m_fault, .int m_broken, .int m_brokenAt, .int m_spot, .int m_here, .int m_token, .int m_value, .ref a_m_cuts, .ref a_m_letters, .int m_silent, .int m_greatest, .int m_moves, .int m_holders, .ref a_m_seen, .int m_seenMany, .ref a_m_pointBy, .ref a_m_isKept, .ref a_m_lanes, .ref a_m_lengths, .ref a_m_sheetCells, .int m_torn]))] H := hP
    have hD : va_D A [(a_m, .inr (6, [.ref a_m_state, .ref a_m_readPage, .int m_toldOnce, .ref a_m_tape, .int u1, .int m_fault, .int m_broken, .int m_brokenAt, .int m_spot, .int m_here, .int m_token, .int m_value, .ref a_m_cuts, .ref a_m_letters, .int m_silent, .int m_greatest, .int m_moves, .int m_holders, .ref a_m_seen, .int m_seenMany, .ref a_m_pointBy, .ref a_m_isKept, .ref a_m_lanes, .ref a_m_lengths, .ref a_m_sheetCells, .int m_torn]))] := hD
    refine lv_iload_n hx hb dX6_end_26 rfl (lv_at hl 0 rfl) ?_
    have hr := (zs h)
    subst hr
    exact hret H locs ls 27 hP hS dX6_end_27
  · have h := zit c2 h
    refine lv_iconst (v := (-1)) hx hb dX6_end_14 (by decide) ?_
    have hr := (zs h)
    subst hr
    exact hret H locs ls 15 hP hS dX6_end_15
theorem iw_X6_byteAt_X6 : ∀ w ∈ wsX60, w ∈ wsX6_byteAt := fun _ h => List.mem_cons_of_mem _ (List.mem_append_right _ h)
set_option maxHeartbeats 4000000 in
set_option maxRecDepth 100000 in
theorem c_X6_byteAt (l : Launch) (G : va_G) (k : Nat → ClassId) (tL tM : Nat) (sK sV : Nat → Nat) (a_m : Nat) (a_m_state : Nat) (a_m_readPage : Nat) (a_m_tape : Nat) (a_m_cuts : Nat) (a_m_letters : Nat) (a_m_seen : Nat) (a_m_pointBy : Nat) (a_m_isKept : Nat) (a_m_lanes : Nat) (a_m_lengths : Nat) (a_m_sheetCells : Nat) (sz : Nat) (m_toldOnce : Int32) (m_taped : Int32) (m_fault : Int32) (m_broken : Int32) (m_brokenAt : Int32) (m_spot : Int32) (m_here : Int32) (m_token : Int32) (m_value : Int32) (m_silent : Int32) (m_greatest : Int32) (m_moves : Int32) (m_holders : Int32) (m_seenMany : Int32) (m_torn : Int32) (m_tape : Nat → Int32) (u1 : Int32) (out : Int32) (h : p_X6_byteAt u1 m_taped m_tape = some out) : zMi l yX6_byteAt wsX6_byteAt 0 0 G k tL tM sK sV [.ref a_m, .int u1] [(a_m, .inr (6, [.ref a_m_state, .ref a_m_readPage, .int m_toldOnce, .ref a_m_tape, .int m_taped, .int m_fault, .int m_broken, .int m_brokenAt, .int m_spot, .int m_here, .int m_token, .int m_value, .ref a_m_cuts, .ref a_m_letters, .int m_silent, .int m_greatest, .int m_moves, .int m_holders, .ref a_m_seen, .int m_seenMany, .ref a_m_pointBy, .ref a_m_isKept, .ref a_m_lanes, .ref a_m_lengths, .ref a_m_sheetCells, .int m_torn])), (a_m_tape, .inl (k 0, 160, .inl m_tape))] [(a_m, .inr (6, [.ref a_m_state, .ref a_m_readPage, .int m_toldOnce, .ref a_m_tape, .int m_taped, .int m_fault, .int m_broken, .int m_brokenAt, .int m_spot, .int m_here, .int m_token, .int m_value, .ref a_m_cuts, .ref a_m_letters, .int m_silent, .int m_greatest, .int m_moves, .int m_holders, .ref a_m_seen, .int m_seenMany, .ref a_m_pointBy, .ref a_m_isKept, .ref a_m_lanes, .ref a_m_lengths, .ref a_m_sheetCells, .int m_torn])), (a_m_tape, .inl (k 0, 160, .inl m_tape))] out sz := by
  refine z_meti (cc := cX6_byteAt) (maxL := 2) (by decide) rfl (Nat.le_of_ble_eq_true rfl) ?_
  intro p e s m below meth c A Q H locs ls hx hb hml hts hown hA hK hE hret hP hD hS hl
  have hown : s.vm.findClass RX6 = some m.cls := hown
  have hl : lv_has ls 2 [(0, .ref a_m), (1, .int u1)] := hl
  unfold p_X6_byteAt at h
  refine lv_iload_n hx hb dX6_byteAt_0 rfl (lv_at hl 1 rfl) ?_
  refine lv_aload_n hx hb dX6_byteAt_1 rfl (lv_at hl 0 rfl) ?_
  refine va_get (D := G) (ci := 6) (v := .int m_taped) (C := RX6) (T := TX6) (N := 26) hx hb hts iw_X6_byteAt_X6 hown hK hP 0 rfl rfl 4 (by decide) (hts (.fieldLink RX6 54 "SpireLeanModel" "taped" "I") (List.mem_of_getElem? (i := 1) rfl)) (fun _ h9 => h9) rfl dX6_byteAt_2 ?_
  refine lv_icmp_ge (tgt := 17) hx hb dX6_byteAt_5 (by decide) (fun c2 => ?_) (fun c2 => ?_)
  · have h := zit c2 h
    refine lv_bipush (v := (-4)) hx hb dX6_byteAt_17 (by decide) ?_
    have hr := (zs h)
    subst hr
    exact hret H locs ls 19 hP hS dX6_byteAt_19
  · have h := zif c2 h
    refine lv_aload_n hx hb dX6_byteAt_8 rfl (lv_at hl 0 rfl) ?_
    refine va_get (D := G) (ci := 6) (v := .ref a_m_tape) (C := RX6) (T := TX6) (N := 26) hx hb hts iw_X6_byteAt_X6 hown hK hP 0 rfl rfl 3 (by decide) (hts (.fieldLink RX6 16 "SpireLeanModel" "tape" "[I") (List.mem_of_getElem? (i := 2) rfl)) (fun _ h9 => h9) rfl dX6_byteAt_9 ?_
    refine lv_iload_n hx hb dX6_byteAt_12 rfl (lv_at hl 1 rfl) ?_
    obtain ⟨v1, hv, h⟩ := zb h
    refine z_iald hx hb hK hP 1 0 rfl rfl hv dX6_byteAt_13 ?_
    refine lv_goto (tgt := 19) hx hb dX6_byteAt_14 (by decide) ?_
    have hr := (zs h)
    subst hr
    exact hret H locs ls 19 hP hS dX6_byteAt_19
theorem iw_X6_fails_X6 : ∀ w ∈ wsX60, w ∈ wsX6_fails := fun _ h => List.mem_cons_of_mem _ (List.mem_append_right _ h)
set_option maxHeartbeats 4000000 in
set_option maxRecDepth 100000 in
theorem c_X6_fails (l : Launch) (G : va_G) (k : Nat → ClassId) (tL tM : Nat) (sK sV : Nat → Nat) (a_m : Nat) (a_m_state : Nat) (a_m_readPage : Nat) (a_m_tape : Nat) (a_m_cuts : Nat) (a_m_letters : Nat) (a_m_seen : Nat) (a_m_pointBy : Nat) (a_m_isKept : Nat) (a_m_lanes : Nat) (a_m_lengths : Nat) (a_m_sheetCells : Nat) (sz : Nat) (m_toldOnce : Int32) (m_taped : Int32) (m_fault : Int32) (m_broken : Int32) (m_brokenAt : Int32) (m_spot : Int32) (m_here : Int32) (m_token : Int32) (m_value : Int32) (m_silent : Int32) (m_greatest : Int32) (m_moves : Int32) (m_holders : Int32) (m_seenMany : Int32) (m_torn : Int32) (u1 : Int32) (out : Int32 × Int32) (h : p_X6_fails u1 m_broken m_brokenAt m_here = some out) : zMv l yX6_fails wsX6_fails 0 0 G k tL tM sK sV [.ref a_m, .int u1] [(a_m, .inr (6, [.ref a_m_state, .ref a_m_readPage, .int m_toldOnce, .ref a_m_tape, .int m_taped, .int m_fault, .int m_broken, .int m_brokenAt, .int m_spot, .int m_here, .int m_token, .int m_value, .ref a_m_cuts, .ref a_m_letters, .int m_silent, .int m_greatest, .int m_moves, .int m_holders, .ref a_m_seen, .int m_seenMany, .ref a_m_pointBy, .ref a_m_isKept, .ref a_m_lanes, .ref a_m_lengths, .ref a_m_sheetCells, .int m_torn]))] [(a_m, .inr (6, [.ref a_m_state, .ref a_m_readPage, .int m_toldOnce, .ref a_m_tape, .int m_taped, .int m_fault, .int out.1, .int out.2, .int m_spot, .int m_here, .int m_token, .int m_value, .ref a_m_cuts, .ref a_m_letters, .int m_silent, .int m_greatest, .int m_moves, .int m_holders, .ref a_m_seen, .int m_seenMany, .ref a_m_pointBy, .ref a_m_isKept, .ref a_m_lanes, .ref a_m_lengths, .ref a_m_sheetCells, .int m_torn]))] sz := by
  refine z_metv (cc := cX6_fails) (maxL := 2) (by decide) rfl (Nat.le_of_ble_eq_true rfl) ?_
  intro p e s m below meth c A Q H locs ls hx hb hml hts hown hA hK hE hret hP hD hS hl
  have hown : s.vm.findClass RX6 = some m.cls := hown
  have hl : lv_has ls 2 [(0, .ref a_m), (1, .int u1)] := hl
  unfold p_X6_fails at h
  refine lv_aload_n hx hb dX6_fails_0 rfl (lv_at hl 0 rfl) ?_
  refine va_get (D := G) (ci := 6) (v := .int m_broken) (C := RX6) (T := TX6) (N := 26) hx hb hts iw_X6_fails_X6 hown hK hP 0 rfl rfl 6 (by decide) (hts (.fieldLink RX6 57 "SpireLeanModel" "broken" "I") (List.mem_of_getElem? (i := 1) rfl)) (fun _ h9 => h9) rfl dX6_fails_1 ?_
  refine lv_if_ne (tgt := 20) hx hb dX6_fails_4 (by decide) (fun c1 => ?_) (fun c1 => ?_)
  · have h := zif c1 h
    have hr := (zs h)
    subst hr
    exact hret H locs ls 20 hP hS dX6_fails_20
  · have h := zit c1 h
    refine lv_aload_n hx hb dX6_fails_7 rfl (lv_at hl 0 rfl) ?_
    refine lv_iload_n hx hb dX6_fails_8 rfl (lv_at hl 1 rfl) ?_
    refine va_put (D := G) (ci := 6) (v := .int u1) (ty := .int) (C := RX6) (T := TX6) (N := 26) hx hb hts iw_X6_fails_X6 tyX6 tyX6_ok nmX6 hown hK hP hD hS 0 rfl rfl 6 (by decide) (hts (.fieldLink RX6 57 "SpireLeanModel" "broken" "I") (List.mem_of_getElem? (i := 1) rfl)) (fun _ h9 => h9) rfl (tyX6_ok 6 (by decide)) rfl rfl (Nat.le_of_ble_eq_true rfl) dX6_fails_9 (fun H locs hP hD hS => ?_)
    have hP : va_P G vwCl [(a_m, .inr (6, [.ref a_m_state, .ref a_m_readPage, .int m_toldOnce, .ref a_m_tape, .int m_taped, .int m_fault, .int u1, .int m_brokenAt, .int m_spot, .int m_here, .int m_token, .int m_value, .ref a_m_cuts, .ref a_m_letters, .int m_silent, .int m_greatest, .int m_moves, .int m_holders, .ref a_m_seen, .int m_seenMany, .ref a_m_pointBy, .ref a_m_isKept, .ref a_m_lanes, .ref a_m_lengths, .ref a_m_sheetCells, .int m_torn]))] H := hP
    have hD : va_D A [(a_m, .inr (6, [.ref a_m_state, .ref a_m_readPage, .int m_toldOnce, .ref a_m_tape, .int m_taped, .int m_fault, .int u1, .int m_brokenAt, .int m_spot, .int m_here, .int m_token, .int m_value, .ref a_m_cuts, .ref a_m_letters, .int m_silent, .int m_greatest, .int m_moves, .int m_holders, .ref a_m_seen, .int m_seenMany, .ref a_m_pointBy, .ref a_m_isKept, .ref a_m_lanes, .ref a_m_lengths, .ref a_m_sheetCells, .int m_torn]))] := hD
    refine lv_aload_n hx hb dX6_fails_12 rfl (lv_at hl 0 rfl) ?_
    refine lv_aload_n hx hb dX6_fails_13 rfl (lv_at hl 0 rfl) ?_
    refine va_get (D := G) (ci := 6) (v := .int m_here) (C := RX6) (T := TX6) (N := 26) hx hb hts iw_X6_fails_X6 hown hK hP 0 rfl rfl 9 (by decide) (hts (.fieldLink RX6 60 "SpireLeanModel" "here" "I") (List.mem_of_getElem? (i := 2) rfl)) (fun _ h9 => h9) rfl dX6_fails_14 ?_
    refine va_put (D := G) (ci := 6) (v := .int m_here) (ty := .int) (C := RX6) (T := TX6) (N := 26) hx hb hts iw_X6_fails_X6 tyX6 tyX6_ok nmX6 hown hK hP hD hS 0 rfl rfl 7 (by decide) (hts (.fieldLink RX6 63 "SpireLeanModel" "brokenAt" "I") (List.mem_of_getElem? (i := 3) rfl)) (fun _ h9 => h9) rfl (tyX6_ok 7 (by decide)) rfl rfl (Nat.le_of_ble_eq_true rfl) dX6_fails_17 (fun H locs hP hD hS => ?_)
    have hP : va_P G vwCl [(a_m, .inr (6, [.ref a_m_state, .ref a_m_readPage, .int m_toldOnce, .ref a_m_tape, .int m_taped, .int m_fault, .int u1, .int m_here, .int m_spot, .int m_here, .int m_token, .int m_value, .ref a_m_cuts, .ref a_m_letters, .int m_silent, .int m_greatest, .int m_moves, .int m_holders, .ref a_m_seen, .int m_seenMany, .ref a_m_pointBy, .ref a_m_isKept, .ref a_m_lanes, .ref a_m_lengths, .ref a_m_sheetCells, .int m_torn]))] H := hP
    have hD : va_D A [(a_m, .inr (6, [.ref a_m_state, .ref a_m_readPage, .int m_toldOnce, .ref a_m_tape, .int m_taped, .int m_fault, .int u1, .int m_here, .int m_spot, .int m_here, .int m_token, .int m_value, .ref a_m_cuts, .ref a_m_letters, .int m_silent, .int m_greatest, .int m_moves, .int m_holders, .ref a_m_seen, .int m_seenMany, .ref a_m_pointBy, .ref a_m_isKept, .ref a_m_lanes, .ref a_m_lengths, .ref a_m_sheetCells, .int m_torn]))] := hD
    have hr := (zs h)
    subst hr
    exact hret H locs ls 20 hP hS dX6_fails_20
theorem iw_X6_nameHere_X6 : ∀ w ∈ wsX60, w ∈ wsX6_nameHere := fun _ h => List.mem_cons_of_mem _ (List.mem_append_right _ h)
set_option maxHeartbeats 4000000 in
set_option maxRecDepth 100000 in
theorem c_X6_nameHere (l : Launch) (G : va_G) (k : Nat → ClassId) (tL tM : Nat) (sK sV : Nat → Nat) (a_m : Nat) (a_m_state : Nat) (a_m_readPage : Nat) (a_m_tape : Nat) (a_m_cuts : Nat) (a_m_letters : Nat) (a_m_seen : Nat) (a_m_pointBy : Nat) (a_m_isKept : Nat) (a_m_lanes : Nat) (a_m_lengths : Nat) (a_m_sheetCells : Nat) (sz : Nat) (m_toldOnce : Int32) (m_taped : Int32) (m_fault : Int32) (m_broken : Int32) (m_brokenAt : Int32) (m_spot : Int32) (m_here : Int32) (m_token : Int32) (m_value : Int32) (m_silent : Int32) (m_greatest : Int32) (m_moves : Int32) (m_holders : Int32) (m_seenMany : Int32) (m_torn : Int32) (m_tape : Nat → Int32) (m_cuts : Nat → Int32) (m_letters : Nat → Int32) (out : Int32) (h : p_X6_nameHere m_taped m_spot m_here m_token m_tape m_cuts m_letters = some out) : zMi l yX6_nameHere wsX6_nameHere 1 21 G k tL tM sK sV [.ref a_m] [(a_m, .inr (6, [.ref a_m_state, .ref a_m_readPage, .int m_toldOnce, .ref a_m_tape, .int m_taped, .int m_fault, .int m_broken, .int m_brokenAt, .int m_spot, .int m_here, .int m_token, .int m_value, .ref a_m_cuts, .ref a_m_letters, .int m_silent, .int m_greatest, .int m_moves, .int m_holders, .ref a_m_seen, .int m_seenMany, .ref a_m_pointBy, .ref a_m_isKept, .ref a_m_lanes, .ref a_m_lengths, .ref a_m_sheetCells, .int m_torn])), (a_m_tape, .inl (k 0, 160, .inl m_tape)), (a_m_cuts, .inl (k 0, 8, .inl m_cuts)), (a_m_letters, .inl (k 0, 37, .inl m_letters))] [(a_m, .inr (6, [.ref a_m_state, .ref a_m_readPage, .int m_toldOnce, .ref a_m_tape, .int m_taped, .int m_fault, .int m_broken, .int m_brokenAt, .int m_spot, .int m_here, .int m_token, .int m_value, .ref a_m_cuts, .ref a_m_letters, .int m_silent, .int m_greatest, .int m_moves, .int m_holders, .ref a_m_seen, .int m_seenMany, .ref a_m_pointBy, .ref a_m_isKept, .ref a_m_lanes, .ref a_m_lengths, .ref a_m_sheetCells, .int m_torn])), (a_m_tape, .inl (k 0, 160, .inl m_tape)), (a_m_cuts, .inl (k 0, 8, .inl m_cuts)), (a_m_letters, .inl (k 0, 37, .inl m_letters))] out sz := by
  refine z_meti (cc := cX6_nameHere) (maxL := 4) (by decide) rfl (Nat.le_of_ble_eq_true rfl) ?_
  intro p e s m below meth c A Q H locs ls hx hb hml hts hown hA hK hE hret hP hD hS hl
  have hown : s.vm.findClass RX6 = some m.cls := hown
  have hl : lv_has ls 4 [(0, .ref a_m)] := hl
  unfold p_X6_nameHere at h
  refine lv_iconst (v := 0) hx hb dX6_nameHere_0 (by decide) ?_
  refine lv_istore_n (lv' := [(1, .int (0 : Int32)), (0, .ref a_m)]) hx hb dX6_nameHere_1 rfl hl (by decide) rfl (fun ls hl => ?_)
  obtain ⟨e6, hv, h⟩ := zb h
  have hJ4 : ∀ (x : Int32), .inl x = e6 → x = out := fun x hz => (zs (zpeel_0_2 hz h))
  have hJ5 : ∀ (v7 : Unit), .inr v7 = e6 → zW p l e (zR 1 21) s m ([.ref a_m] : List Value).toArray below meth c Q 4 A G [(a_m, .inr (6, [.ref a_m_state, .ref a_m_readPage, .int m_toldOnce, .ref a_m_tape, .int m_taped, .int m_fault, .int m_broken, .int m_brokenAt, .int m_spot, .int m_here, .int m_token, .int m_value, .ref a_m_cuts, .ref a_m_letters, .int m_silent, .int m_greatest, .int m_moves, .int m_holders, .ref a_m_seen, .int m_seenMany, .ref a_m_pointBy, .ref a_m_isKept, .ref a_m_lanes, .ref a_m_lengths, .ref a_m_sheetCells, .int m_torn])), (a_m_tape, .inl (k 0, 160, .inl m_tape)), (a_m_cuts, .inl (k 0, 8, .inl m_cuts)), (a_m_letters, .inl (k 0, 37, .inl m_letters))] [] 118 [] := by
    intro v7 hz
    have h := (zpeel_1_2 hz h)
    intro H locs ls hP hD hS hl
    refine lv_bipush (v := (-4)) hx hb dX6_nameHere_118 (by decide) ?_
    have hr := (zs h)
    subst hr
    exact hret H locs ls 120 hP hS dX6_nameHere_120
  refine z_lpW (Wh := fun (x1 : Int32) => zW p l e (zR 1 21) s m ([.ref a_m] : List Value).toArray below meth c Q 4 A G [(a_m, .inr (6, [.ref a_m_state, .ref a_m_readPage, .int m_toldOnce, .ref a_m_tape, .int m_taped, .int m_fault, .int m_broken, .int m_brokenAt, .int m_spot, .int m_here, .int m_token, .int m_value, .ref a_m_cuts, .ref a_m_letters, .int m_silent, .int m_greatest, .int m_moves, .int m_holders, .ref a_m_seen, .int m_seenMany, .ref a_m_pointBy, .ref a_m_isKept, .ref a_m_lanes, .ref a_m_lengths, .ref a_m_sheetCells, .int m_torn])), (a_m_tape, .inl (k 0, 160, .inl m_tape)), (a_m_cuts, .inl (k 0, 8, .inl m_cuts)), (a_m_letters, .inl (k 0, 37, .inl m_letters))] [(0, .ref a_m), (1, .int x1)] 2 []) ?_ 1000 _ hv H locs ls hP hD hS (lv_sub hl [1, 0] rfl)
  clear h
  intro x1 o h hC2 hX3 H locs ls hP hD hS hl
  unfold p_X6_nameHere_b2 at h
  refine lv_iload_n hx hb dX6_nameHere_2 rfl (lv_at hl 1 rfl) ?_
  refine lv_bipush (v := 7) hx hb dX6_nameHere_3 (by decide) ?_
  refine lv_icmp_ge (tgt := 118) hx hb dX6_nameHere_5 (by decide) (fun c28 => ?_) (fun c28 => ?_)
  · have h := zit c28 h
    exact hJ5 _ (hX3 _ (zs h)) H locs ls hP hD hS (lv_sub hl [] rfl)
  · have h := zif c28 h
    refine lv_aload_n hx hb dX6_nameHere_8 rfl (lv_at hl 0 rfl) ?_
    refine va_get (D := G) (ci := 6) (v := .int m_token) (C := RX6) (T := TX6) (N := 26) hx hb hts iw_X6_nameHere_X6 hown hK hP 0 rfl rfl 10 (by decide) (hts (.fieldLink RX6 66 "SpireLeanModel" "token" "I") (List.mem_of_getElem? (i := 1) rfl)) (fun _ h9 => h9) rfl dX6_nameHere_9 ?_
    refine lv_iconst (v := 1) hx hb dX6_nameHere_12 (by decide) ?_
    refine lv_icmp_ne (tgt := 118) hx hb dX6_nameHere_13 (by decide) (fun c27 => ?_) (fun c27 => ?_)
    · have h := zif c27 h
      exact hJ5 _ (hX3 _ (zs h)) H locs ls hP hD hS (lv_sub hl [] rfl)
    · have h := zit c27 h
      refine lv_aload_n hx hb dX6_nameHere_16 rfl (lv_at hl 0 rfl) ?_
      refine va_get (D := G) (ci := 6) (v := .int m_spot) (C := RX6) (T := TX6) (N := 26) hx hb hts iw_X6_nameHere_X6 hown hK hP 0 rfl rfl 8 (by decide) (hts (.fieldLink RX6 69 "SpireLeanModel" "spot" "I") (List.mem_of_getElem? (i := 2) rfl)) (fun _ h9 => h9) rfl dX6_nameHere_17 ?_
      refine lv_aload_n hx hb dX6_nameHere_20 rfl (lv_at hl 0 rfl) ?_
      refine va_get (D := G) (ci := 6) (v := .int m_here) (C := RX6) (T := TX6) (N := 26) hx hb hts iw_X6_nameHere_X6 hown hK hP 0 rfl rfl 9 (by decide) (hts (.fieldLink RX6 60 "SpireLeanModel" "here" "I") (List.mem_of_getElem? (i := 3) rfl)) (fun _ h9 => h9) rfl dX6_nameHere_21 ?_
      refine lv_isub hx hb dX6_nameHere_24 ?_
      refine lv_aload_n hx hb dX6_nameHere_25 rfl (lv_at hl 0 rfl) ?_
      refine va_get (D := G) (ci := 6) (v := .ref a_m_cuts) (C := RX6) (T := TX6) (N := 26) hx hb hts iw_X6_nameHere_X6 hown hK hP 0 rfl rfl 12 (by decide) (hts (.fieldLink RX6 19 "SpireLeanModel" "cuts" "[I") (List.mem_of_getElem? (i := 4) rfl)) (fun _ h9 => h9) rfl dX6_nameHere_26 ?_
      refine lv_iload_n hx hb dX6_nameHere_29 rfl (lv_at hl 1 rfl) ?_
      refine lv_iconst (v := 1) hx hb dX6_nameHere_30 (by decide) ?_
      refine lv_iadd hx hb dX6_nameHere_31 ?_
      obtain ⟨v8, hv, h⟩ := zb h
      refine z_iald hx hb hK hP 2 0 rfl rfl hv dX6_nameHere_32 ?_
      refine lv_aload_n hx hb dX6_nameHere_33 rfl (lv_at hl 0 rfl) ?_
      refine va_get (D := G) (ci := 6) (v := .ref a_m_cuts) (C := RX6) (T := TX6) (N := 26) hx hb hts iw_X6_nameHere_X6 hown hK hP 0 rfl rfl 12 (by decide) (hts (.fieldLink RX6 19 "SpireLeanModel" "cuts" "[I") (List.mem_of_getElem? (i := 4) rfl)) (fun _ h9 => h9) rfl dX6_nameHere_34 ?_
      refine lv_iload_n hx hb dX6_nameHere_37 rfl (lv_at hl 1 rfl) ?_
      obtain ⟨v9, hv, h⟩ := zb h
      refine z_iald hx hb hK hP 2 0 rfl rfl hv dX6_nameHere_38 ?_
      refine lv_isub hx hb dX6_nameHere_39 ?_
      have hJ10 : ∀ (y11 : Int32), y11 = (if (m_spot - m_here) = (v8 - v9) then (1 : Int32) else (0 : Int32)) → zW p l e (zR 1 21) s m ([.ref a_m] : List Value).toArray below meth c Q 4 A G [(a_m, .inr (6, [.ref a_m_state, .ref a_m_readPage, .int m_toldOnce, .ref a_m_tape, .int m_taped, .int m_fault, .int m_broken, .int m_brokenAt, .int m_spot, .int m_here, .int m_token, .int m_value, .ref a_m_cuts, .ref a_m_letters, .int m_silent, .int m_greatest, .int m_moves, .int m_holders, .ref a_m_seen, .int m_seenMany, .ref a_m_pointBy, .ref a_m_isKept, .ref a_m_lanes, .ref a_m_lengths, .ref a_m_sheetCells, .int m_torn])), (a_m_tape, .inl (k 0, 160, .inl m_tape)), (a_m_cuts, .inl (k 0, 8, .inl m_cuts)), (a_m_letters, .inl (k 0, 37, .inl m_letters))] [(0, .ref a_m), (1, .int x1)] 48 [.int y11] := by
        intro y11 q12
        subst q12
        intro H locs ls hP hD hS hl
        refine lv_istore_n (lv' := [(2, .int (if (m_spot - m_here) = (v8 - v9) then (1 : Int32) else (0 : Int32))), (0, .ref a_m), (1, .int x1)]) hx hb dX6_nameHere_48 rfl hl (by decide) rfl (fun ls hl => ?_)
        refine lv_iconst (v := 0) hx hb dX6_nameHere_49 (by decide) ?_
        refine lv_istore_n (lv' := [(3, .int (0 : Int32)), (2, .int (if (m_spot - m_here) = (v8 - v9) then (1 : Int32) else (0 : Int32))), (0, .ref a_m), (1, .int x1)]) hx hb dX6_nameHere_50 rfl hl (by decide) rfl (fun ls hl => ?_)
        obtain ⟨e18, hv, h⟩ := zb h
        have hJ17 : ∀ (e18_ : Int32), e18_ = e18 → zW p l e (zR 1 21) s m ([.ref a_m] : List Value).toArray below meth c Q 4 A G [(a_m, .inr (6, [.ref a_m_state, .ref a_m_readPage, .int m_toldOnce, .ref a_m_tape, .int m_taped, .int m_fault, .int m_broken, .int m_brokenAt, .int m_spot, .int m_here, .int m_token, .int m_value, .ref a_m_cuts, .ref a_m_letters, .int m_silent, .int m_greatest, .int m_moves, .int m_holders, .ref a_m_seen, .int m_seenMany, .ref a_m_pointBy, .ref a_m_isKept, .ref a_m_lanes, .ref a_m_lengths, .ref a_m_sheetCells, .int m_torn])), (a_m_tape, .inl (k 0, 160, .inl m_tape)), (a_m_cuts, .inl (k 0, 8, .inl m_cuts)), (a_m_letters, .inl (k 0, 37, .inl m_letters))] [(0, .ref a_m), (1, .int x1), (2, .int e18_)] 106 [] := by
          intro e18_ hz
          subst hz
          intro H locs ls hP hD hS hl
          refine lv_iload_n hx hb dX6_nameHere_106 rfl (lv_at hl 2 rfl) ?_
          refine lv_if_eq (tgt := 112) hx hb dX6_nameHere_107 (by decide) (fun c26 => ?_) (fun c26 => ?_)
          · have h := zit c26 h
            refine lv_iinc (v := x1 + (1 : Int32)) (lv' := [(1, .int (x1 + (1 : Int32))), (0, .ref a_m), (2, .int e18_)]) hx hb dX6_nameHere_112 hl (k := 1) rfl rfl (by decide) rfl (fun ls hl => ?_)
            refine lv_goto (tgt := 2) hx hb dX6_nameHere_115 (by decide) ?_
            exact hC2 _ (zs h) H locs ls hP hD hS (lv_sub hl [1, 0] rfl)
          · have h := zif c26 h
            refine lv_iload_n hx hb dX6_nameHere_110 rfl (lv_at hl 1 rfl) ?_
            have hr := (hJ4 _ (hX3 _ (zs h)))
            subst hr
            exact hret H locs ls 111 hP hS dX6_nameHere_111
        refine z_lpW (Wh := fun (x14 : Int32 × Int32) => zW p l e (zR 1 21) s m ([.ref a_m] : List Value).toArray below meth c Q 4 A G [(a_m, .inr (6, [.ref a_m_state, .ref a_m_readPage, .int m_toldOnce, .ref a_m_tape, .int m_taped, .int m_fault, .int m_broken, .int m_brokenAt, .int m_spot, .int m_here, .int m_token, .int m_value, .ref a_m_cuts, .ref a_m_letters, .int m_silent, .int m_greatest, .int m_moves, .int m_holders, .ref a_m_seen, .int m_seenMany, .ref a_m_pointBy, .ref a_m_isKept, .ref a_m_lanes, .ref a_m_lengths, .ref a_m_sheetCells, .int m_torn])), (a_m_tape, .inl (k 0, 160, .inl m_tape)), (a_m_cuts, .inl (k 0, 8, .inl m_cuts)), (a_m_letters, .inl (k 0, 37, .inl m_letters))] [(0, .ref a_m), (1, .int x1), (2, .int x14.1), (3, .int x14.2)] 51 []) ?_ 1000 _ hv H locs ls hP hD hS (lv_sub hl [2, 3, 1, 0] rfl)
        clear h
        intro x14 o h hC15 hX16 H locs ls hP hD hS hl
        unfold p_X6_nameHere_b51 at h
        refine lv_iload_n hx hb dX6_nameHere_51 rfl (lv_at hl 2 rfl) ?_
        refine lv_if_eq (tgt := 106) hx hb dX6_nameHere_52 (by decide) (fun c25 => ?_) (fun c25 => ?_)
        · have h := zit c25 h
          exact hJ17 _ (hX16 _ (zs h)) H locs ls hP hD hS (lv_sub hl [0, 1, 2] rfl)
        · have h := zif c25 h
          refine lv_iload_n hx hb dX6_nameHere_55 rfl (lv_at hl 3 rfl) ?_
          refine lv_aload_n hx hb dX6_nameHere_56 rfl (lv_at hl 0 rfl) ?_
          refine va_get (D := G) (ci := 6) (v := .int m_spot) (C := RX6) (T := TX6) (N := 26) hx hb hts iw_X6_nameHere_X6 hown hK hP 0 rfl rfl 8 (by decide) (hts (.fieldLink RX6 69 "SpireLeanModel" "spot" "I") (List.mem_of_getElem? (i := 2) rfl)) (fun _ h9 => h9) rfl dX6_nameHere_57 ?_
          refine lv_aload_n hx hb dX6_nameHere_60 rfl (lv_at hl 0 rfl) ?_
          refine va_get (D := G) (ci := 6) (v := .int m_here) (C := RX6) (T := TX6) (N := 26) hx hb hts iw_X6_nameHere_X6 hown hK hP 0 rfl rfl 9 (by decide) (hts (.fieldLink RX6 60 "SpireLeanModel" "here" "I") (List.mem_of_getElem? (i := 3) rfl)) (fun _ h9 => h9) rfl dX6_nameHere_61 ?_
          refine lv_isub hx hb dX6_nameHere_64 ?_
          refine lv_icmp_ge (tgt := 106) hx hb dX6_nameHere_65 (by decide) (fun c24 => ?_) (fun c24 => ?_)
          · have h := zit c24 h
            exact hJ17 _ (hX16 _ (zs h)) H locs ls hP hD hS (lv_sub hl [0, 1, 2] rfl)
          · have h := zif c24 h
            refine lv_aload_n hx hb dX6_nameHere_68 rfl (lv_at hl 0 rfl) ?_
            refine lv_aload_n hx hb dX6_nameHere_69 rfl (lv_at hl 0 rfl) ?_
            refine va_get (D := G) (ci := 6) (v := .int m_here) (C := RX6) (T := TX6) (N := 26) hx hb hts iw_X6_nameHere_X6 hown hK hP 0 rfl rfl 9 (by decide) (hts (.fieldLink RX6 60 "SpireLeanModel" "here" "I") (List.mem_of_getElem? (i := 3) rfl)) (fun _ h9 => h9) rfl dX6_nameHere_70 ?_
            refine lv_iload_n hx hb dX6_nameHere_73 rfl (lv_at hl 3 rfl) ?_
            refine lv_iadd hx hb dX6_nameHere_74 ?_
            obtain ⟨o20, hv, h⟩ := zb h
            refine z_goi (w2 := [(a_m, .inr (6, [.ref a_m_state, .ref a_m_readPage, .int m_toldOnce, .ref a_m_tape, .int m_taped, .int m_fault, .int m_broken, .int m_brokenAt, .int m_spot, .int m_here, .int m_token, .int m_value, .ref a_m_cuts, .ref a_m_letters, .int m_silent, .int m_greatest, .int m_moves, .int m_holders, .ref a_m_seen, .int m_seenMany, .ref a_m_pointBy, .ref a_m_isKept, .ref a_m_lanes, .ref a_m_lengths, .ref a_m_sheetCells, .int m_torn])), (a_m_tape, .inl (k 0, 160, .inl m_tape)), (a_m_cuts, .inl (k 0, 8, .inl m_cuts)), (a_m_letters, .inl (k 0, 37, .inl m_letters))]) [0, 1] (va_runV (As := [.int (m_here + x14.2)]) (rest := []) ⟨hx, hb, hml, hown, hts⟩ (c_X6_byteAt l G k tL tM sK sV a_m a_m_state a_m_readPage a_m_tape a_m_cuts a_m_letters a_m_seen a_m_pointBy a_m_isKept a_m_lanes a_m_lengths a_m_sheetCells H.size m_toldOnce m_taped m_fault m_broken m_brokenAt m_spot m_here m_token m_value m_silent m_greatest m_moves m_holders m_seenMany m_torn m_tape (m_here + x14.2) o20 hv) (cwV 1 hts gX6_nameHere_X6_byteAt rfl rfl rfl (by decide +kernel) ⟨Nat.le_of_ble_eq_true rfl, Nat.le_of_ble_eq_true rfl⟩) (z_preV (wc := [(a_m, .inr (6, [.ref a_m_state, .ref a_m_readPage, .int m_toldOnce, .ref a_m_tape, .int m_taped, .int m_fault, .int m_broken, .int m_brokenAt, .int m_spot, .int m_here, .int m_token, .int m_value, .ref a_m_cuts, .ref a_m_letters, .int m_silent, .int m_greatest, .int m_moves, .int m_holders, .ref a_m_seen, .int m_seenMany, .ref a_m_pointBy, .ref a_m_isKept, .ref a_m_lanes, .ref a_m_lengths, .ref a_m_sheetCells, .int m_torn])), (a_m_tape, .inl (k 0, 160, .inl m_tape))]) [0, 1] 0 6 hK hE hA hP hD hS (by decide) rfl rfl rfl) rfl rfl hl.1 rfl (lv_room (Nat.le_of_ble_eq_true rfl)) dX6_nameHere_75 ⟨Nat.le_refl _, Nat.le_refl _⟩) hA hP hD hS rfl rfl rfl rfl (fun H locs hP hD hS => ?_)
            refine lv_aload_n hx hb dX6_nameHere_78 rfl (lv_at hl 0 rfl) ?_
            refine va_get (D := G) (ci := 6) (v := .ref a_m_letters) (C := RX6) (T := TX6) (N := 26) hx hb hts iw_X6_nameHere_X6 hown hK hP 0 rfl rfl 13 (by decide) (hts (.fieldLink RX6 22 "SpireLeanModel" "letters" "[I") (List.mem_of_getElem? (i := 5) rfl)) (fun _ h9 => h9) rfl dX6_nameHere_79 ?_
            refine lv_aload_n hx hb dX6_nameHere_82 rfl (lv_at hl 0 rfl) ?_
            refine va_get (D := G) (ci := 6) (v := .ref a_m_cuts) (C := RX6) (T := TX6) (N := 26) hx hb hts iw_X6_nameHere_X6 hown hK hP 0 rfl rfl 12 (by decide) (hts (.fieldLink RX6 19 "SpireLeanModel" "cuts" "[I") (List.mem_of_getElem? (i := 4) rfl)) (fun _ h9 => h9) rfl dX6_nameHere_83 ?_
            refine lv_iload_n hx hb dX6_nameHere_86 rfl (lv_at hl 1 rfl) ?_
            obtain ⟨v21, hv, h⟩ := zb h
            refine z_iald hx hb hK hP 2 0 rfl rfl hv dX6_nameHere_87 ?_
            refine lv_iload_n hx hb dX6_nameHere_88 rfl (lv_at hl 3 rfl) ?_
            refine lv_iadd hx hb dX6_nameHere_89 ?_
            obtain ⟨v22, hv, h⟩ := zb h
            refine z_iald hx hb hK hP 3 0 rfl rfl hv dX6_nameHere_90 ?_
            refine lv_icmp_ne (tgt := 98) hx hb dX6_nameHere_91 (by decide) (fun c23 => ?_) (fun c23 => ?_)
            · have h := zif c23 h
              refine lv_iconst (v := 0) hx hb dX6_nameHere_98 (by decide) ?_
              refine lv_istore_n (lv' := [(2, .int (0 : Int32)), (0, .ref a_m), (1, .int x1), (3, .int x14.2)]) hx hb dX6_nameHere_99 rfl hl (by decide) rfl (fun ls hl => ?_)
              refine lv_iinc (v := x14.2 + (1 : Int32)) (lv' := [(3, .int (x14.2 + (1 : Int32))), (2, .int (0 : Int32)), (0, .ref a_m), (1, .int x1)]) hx hb dX6_nameHere_100 hl (k := 3) rfl rfl (by decide) rfl (fun ls hl => ?_)
              refine lv_goto (tgt := 51) hx hb dX6_nameHere_103 (by decide) ?_
              exact hC15 _ (zs h) H locs ls hP hD hS (lv_sub hl [2, 3, 1, 0] rfl)
            · have h := zit c23 h
              refine lv_iconst (v := 1) hx hb dX6_nameHere_94 (by decide) ?_
              refine lv_goto (tgt := 99) hx hb dX6_nameHere_95 (by decide) ?_
              refine lv_istore_n (lv' := [(2, .int (1 : Int32)), (0, .ref a_m), (1, .int x1), (3, .int x14.2)]) hx hb dX6_nameHere_99 rfl hl (by decide) rfl (fun ls hl => ?_)
              refine lv_iinc (v := x14.2 + (1 : Int32)) (lv' := [(3, .int (x14.2 + (1 : Int32))), (2, .int (1 : Int32)), (0, .ref a_m), (1, .int x1)]) hx hb dX6_nameHere_100 hl (k := 3) rfl rfl (by decide) rfl (fun ls hl => ?_)
              refine lv_goto (tgt := 51) hx hb dX6_nameHere_103 (by decide) ?_
              exact hC15 _ (zs h) H locs ls hP hD hS (lv_sub hl [2, 3, 1, 0] rfl)
      refine lv_icmp_ne (tgt := 47) hx hb dX6_nameHere_40 (by decide) (fun c13 => ?_) (fun c13 => ?_)
      · refine lv_iconst (v := 0) hx hb dX6_nameHere_47 (by decide) ?_
        exact hJ10 _ (if_neg c13).symm H locs ls hP hD hS (lv_sub hl [0, 1] rfl)
      · refine lv_iconst (v := 1) hx hb dX6_nameHere_43 (by decide) ?_
        refine lv_goto (tgt := 48) hx hb dX6_nameHere_44 (by decide) ?_
        exact hJ10 _ (if_pos c13).symm H locs ls hP hD hS (lv_sub hl [0, 1] rfl)
theorem iw_X6_step_X6 : ∀ w ∈ wsX60, w ∈ wsX6_step := fun _ h => List.mem_cons_of_mem _ (List.mem_append_right _ h)
set_option maxHeartbeats 4000000 in
set_option maxRecDepth 100000 in
theorem c_X6_step (l : Launch) (G : va_G) (k : Nat → ClassId) (tL tM : Nat) (sK sV : Nat → Nat) (a_m : Nat) (a_m_state : Nat) (a_m_readPage : Nat) (a_m_tape : Nat) (a_m_cuts : Nat) (a_m_letters : Nat) (a_m_seen : Nat) (a_m_pointBy : Nat) (a_m_isKept : Nat) (a_m_lanes : Nat) (a_m_lengths : Nat) (a_m_sheetCells : Nat) (sz : Nat) (m_toldOnce : Int32) (m_taped : Int32) (m_fault : Int32) (m_broken : Int32) (m_brokenAt : Int32) (m_spot : Int32) (m_here : Int32) (m_token : Int32) (m_value : Int32) (m_silent : Int32) (m_greatest : Int32) (m_moves : Int32) (m_holders : Int32) (m_seenMany : Int32) (m_torn : Int32) (m_tape : Nat → Int32) (out : Int32 × Int32 × Int32 × Int32 × Int32 × Int32) (h : p_X6_step m_taped m_broken m_brokenAt m_spot m_here m_token m_value m_tape = some out) : zMv l yX6_step wsX6_step 1 25 G k tL tM sK sV [.ref a_m] [(a_m, .inr (6, [.ref a_m_state, .ref a_m_readPage, .int m_toldOnce, .ref a_m_tape, .int m_taped, .int m_fault, .int m_broken, .int m_brokenAt, .int m_spot, .int m_here, .int m_token, .int m_value, .ref a_m_cuts, .ref a_m_letters, .int m_silent, .int m_greatest, .int m_moves, .int m_holders, .ref a_m_seen, .int m_seenMany, .ref a_m_pointBy, .ref a_m_isKept, .ref a_m_lanes, .ref a_m_lengths, .ref a_m_sheetCells, .int m_torn])), (a_m_tape, .inl (k 0, 160, .inl m_tape))] [(a_m, .inr (6, [.ref a_m_state, .ref a_m_readPage, .int m_toldOnce, .ref a_m_tape, .int m_taped, .int m_fault, .int out.1, .int out.2.1, .int out.2.2.1, .int out.2.2.2.1, .int out.2.2.2.2.1, .int out.2.2.2.2.2, .ref a_m_cuts, .ref a_m_letters, .int m_silent, .int m_greatest, .int m_moves, .int m_holders, .ref a_m_seen, .int m_seenMany, .ref a_m_pointBy, .ref a_m_isKept, .ref a_m_lanes, .ref a_m_lengths, .ref a_m_sheetCells, .int m_torn])), (a_m_tape, .inl (k 0, 160, .inl m_tape))] sz := by
  refine z_metv (cc := cX6_step) (maxL := 2) (by decide) rfl (Nat.le_of_ble_eq_true rfl) ?_
  intro p e s m below meth c A Q H locs ls hx hb hml hts hown hA hK hE hret hP hD hS hl
  have hown : s.vm.findClass RX6 = some m.cls := hown
  have hl : lv_has ls 2 [(0, .ref a_m)] := hl
  unfold p_X6_step at h
  refine lv_aload_n hx hb dX6_step_0 rfl (lv_at hl 0 rfl) ?_
  refine va_get (D := G) (ci := 6) (v := .int m_broken) (C := RX6) (T := TX6) (N := 26) hx hb hts iw_X6_step_X6 hown hK hP 0 rfl rfl 6 (by decide) (hts (.fieldLink RX6 57 "SpireLeanModel" "broken" "I") (List.mem_of_getElem? (i := 1) rfl)) (fun _ h9 => h9) rfl dX6_step_1 ?_
  refine lv_if_le (tgt := 8) hx hb dX6_step_4 (by decide) (fun c39 => ?_) (fun c39 => ?_)
  · have h := zit c39 h
    obtain ⟨e5, hv, h⟩ := zb h
    have hJ4 : ∀ (e5_ : Int32), e5_ = e5 → zW p l e (zR 1 25) s m ([.ref a_m] : List Value).toArray below meth c Q 2 A G [(a_m, .inr (6, [.ref a_m_state, .ref a_m_readPage, .int m_toldOnce, .ref a_m_tape, .int m_taped, .int m_fault, .int m_broken, .int m_brokenAt, .int e5_, .int m_here, .int m_token, .int m_value, .ref a_m_cuts, .ref a_m_letters, .int m_silent, .int m_greatest, .int m_moves, .int m_holders, .ref a_m_seen, .int m_seenMany, .ref a_m_pointBy, .ref a_m_isKept, .ref a_m_lanes, .ref a_m_lengths, .ref a_m_sheetCells, .int m_torn])), (a_m_tape, .inl (k 0, 160, .inl m_tape))] [(0, .ref a_m)] 34 [] := by
      intro e5_ hz
      subst hz
      intro H locs ls hP hD hS hl
      refine lv_aload_n hx hb dX6_step_34 rfl (lv_at hl 0 rfl) ?_
      refine lv_aload_n hx hb dX6_step_35 rfl (lv_at hl 0 rfl) ?_
      refine va_get (D := G) (ci := 6) (v := .int e5_) (C := RX6) (T := TX6) (N := 26) hx hb hts iw_X6_step_X6 hown hK hP 0 rfl rfl 8 (by decide) (hts (.fieldLink RX6 69 "SpireLeanModel" "spot" "I") (List.mem_of_getElem? (i := 2) rfl)) (fun _ h9 => h9) rfl dX6_step_36 ?_
      refine va_put (D := G) (ci := 6) (v := .int e5_) (ty := .int) (C := RX6) (T := TX6) (N := 26) hx hb hts iw_X6_step_X6 tyX6 tyX6_ok nmX6 hown hK hP hD hS 0 rfl rfl 9 (by decide) (hts (.fieldLink RX6 60 "SpireLeanModel" "here" "I") (List.mem_of_getElem? (i := 3) rfl)) (fun _ h9 => h9) rfl (tyX6_ok 9 (by decide)) rfl rfl (Nat.le_of_ble_eq_true rfl) dX6_step_39 (fun H locs hP hD hS => ?_)
      have hP : va_P G vwCl [(a_m, .inr (6, [.ref a_m_state, .ref a_m_readPage, .int m_toldOnce, .ref a_m_tape, .int m_taped, .int m_fault, .int m_broken, .int m_brokenAt, .int e5_, .int e5_, .int m_token, .int m_value, .ref a_m_cuts, .ref a_m_letters, .int m_silent, .int m_greatest, .int m_moves, .int m_holders, .ref a_m_seen, .int m_seenMany, .ref a_m_pointBy, .ref a_m_isKept, .ref a_m_lanes, .ref a_m_lengths, .ref a_m_sheetCells, .int m_torn])), (a_m_tape, .inl (k 0, 160, .inl m_tape))] H := hP
      have hD : va_D A [(a_m, .inr (6, [.ref a_m_state, .ref a_m_readPage, .int m_toldOnce, .ref a_m_tape, .int m_taped, .int m_fault, .int m_broken, .int m_brokenAt, .int e5_, .int e5_, .int m_token, .int m_value, .ref a_m_cuts, .ref a_m_letters, .int m_silent, .int m_greatest, .int m_moves, .int m_holders, .ref a_m_seen, .int m_seenMany, .ref a_m_pointBy, .ref a_m_isKept, .ref a_m_lanes, .ref a_m_lengths, .ref a_m_sheetCells, .int m_torn])), (a_m_tape, .inl (k 0, 160, .inl m_tape))] := hD
      refine lv_aload_n hx hb dX6_step_42 rfl (lv_at hl 0 rfl) ?_
      refine lv_aload_n hx hb dX6_step_43 rfl (lv_at hl 0 rfl) ?_
      refine va_get (D := G) (ci := 6) (v := .int e5_) (C := RX6) (T := TX6) (N := 26) hx hb hts iw_X6_step_X6 hown hK hP 0 rfl rfl 8 (by decide) (hts (.fieldLink RX6 69 "SpireLeanModel" "spot" "I") (List.mem_of_getElem? (i := 2) rfl)) (fun _ h9 => h9) rfl dX6_step_44 ?_
      obtain ⟨o9, hv, h⟩ := zb h
      refine z_goi (w2 := [(a_m, .inr (6, [.ref a_m_state, .ref a_m_readPage, .int m_toldOnce, .ref a_m_tape, .int m_taped, .int m_fault, .int m_broken, .int m_brokenAt, .int e5_, .int e5_, .int m_token, .int m_value, .ref a_m_cuts, .ref a_m_letters, .int m_silent, .int m_greatest, .int m_moves, .int m_holders, .ref a_m_seen, .int m_seenMany, .ref a_m_pointBy, .ref a_m_isKept, .ref a_m_lanes, .ref a_m_lengths, .ref a_m_sheetCells, .int m_torn])), (a_m_tape, .inl (k 0, 160, .inl m_tape))]) [0, 1] (va_runV (As := [.int e5_]) (rest := []) ⟨hx, hb, hml, hown, hts⟩ (c_X6_byteAt l G k tL tM sK sV a_m a_m_state a_m_readPage a_m_tape a_m_cuts a_m_letters a_m_seen a_m_pointBy a_m_isKept a_m_lanes a_m_lengths a_m_sheetCells H.size m_toldOnce m_taped m_fault m_broken m_brokenAt e5_ e5_ m_token m_value m_silent m_greatest m_moves m_holders m_seenMany m_torn m_tape e5_ o9 hv) (cwV 1 hts gX6_step_X6_byteAt rfl rfl rfl (by decide +kernel) ⟨Nat.le_of_ble_eq_true rfl, Nat.le_of_ble_eq_true rfl⟩) (z_preV (wc := [(a_m, .inr (6, [.ref a_m_state, .ref a_m_readPage, .int m_toldOnce, .ref a_m_tape, .int m_taped, .int m_fault, .int m_broken, .int m_brokenAt, .int e5_, .int e5_, .int m_token, .int m_value, .ref a_m_cuts, .ref a_m_letters, .int m_silent, .int m_greatest, .int m_moves, .int m_holders, .ref a_m_seen, .int m_seenMany, .ref a_m_pointBy, .ref a_m_isKept, .ref a_m_lanes, .ref a_m_lengths, .ref a_m_sheetCells, .int m_torn])), (a_m_tape, .inl (k 0, 160, .inl m_tape))]) [0, 1] 0 6 hK hE hA hP hD hS (by decide) rfl rfl rfl) rfl rfl hl.1 rfl (lv_room (Nat.le_of_ble_eq_true rfl)) dX6_step_47 ⟨Nat.le_refl _, Nat.le_refl _⟩) hA hP hD hS rfl rfl rfl rfl (fun H locs hP hD hS => ?_)
      refine lv_istore_n (lv' := [(1, .int o9), (0, .ref a_m)]) hx hb dX6_step_50 rfl hl (by decide) rfl (fun ls hl => ?_)
      refine lv_aload_n hx hb dX6_step_51 rfl (lv_at hl 1 rfl) ?_
      refine lv_iconst (v := 0) hx hb dX6_step_52 (by decide) ?_
      refine va_put (D := G) (ci := 6) (v := .int (0 : Int32)) (ty := .int) (C := RX6) (T := TX6) (N := 26) hx hb hts iw_X6_step_X6 tyX6 tyX6_ok nmX6 hown hK hP hD hS 0 rfl rfl 11 (by decide) (hts (.fieldLink RX6 76 "SpireLeanModel" "value" "I") (List.mem_of_getElem? (i := 4) rfl)) (fun _ h9 => h9) rfl (tyX6_ok 11 (by decide)) rfl rfl (Nat.le_of_ble_eq_true rfl) dX6_step_53 (fun H locs hP hD hS => ?_)
      have hP : va_P G vwCl [(a_m, .inr (6, [.ref a_m_state, .ref a_m_readPage, .int m_toldOnce, .ref a_m_tape, .int m_taped, .int m_fault, .int m_broken, .int m_brokenAt, .int e5_, .int e5_, .int m_token, .int (0 : Int32), .ref a_m_cuts, .ref a_m_letters, .int m_silent, .int m_greatest, .int m_moves, .int m_holders, .ref a_m_seen, .int m_seenMany, .ref a_m_pointBy, .ref a_m_isKept, .ref a_m_lanes, .ref a_m_lengths, .ref a_m_sheetCells, .int m_torn])), (a_m_tape, .inl (k 0, 160, .inl m_tape))] H := hP
      have hD : va_D A [(a_m, .inr (6, [.ref a_m_state, .ref a_m_readPage, .int m_toldOnce, .ref a_m_tape, .int m_taped, .int m_fault, .int m_broken, .int m_brokenAt, .int e5_, .int e5_, .int m_token, .int (0 : Int32), .ref a_m_cuts, .ref a_m_letters, .int m_silent, .int m_greatest, .int m_moves, .int m_holders, .ref a_m_seen, .int m_seenMany, .ref a_m_pointBy, .ref a_m_isKept, .ref a_m_lanes, .ref a_m_lengths, .ref a_m_sheetCells, .int m_torn])), (a_m_tape, .inl (k 0, 160, .inl m_tape))] := hD
      refine lv_iload_n hx hb dX6_step_56 rfl (lv_at hl 0 rfl) ?_
      refine lv_bipush (v := (-4)) hx hb dX6_step_57 (by decide) ?_
      refine lv_icmp_ne (tgt := 70) hx hb dX6_step_59 (by decide) (fun c38 => ?_) (fun c38 => ?_)
      · have h := zif c38 h
        refine lv_iload_n hx hb dX6_step_70 rfl (lv_at hl 0 rfl) ?_
        refine lv_i2l (v := o9.toInt64) hx hb dX6_step_71 rfl ?_
        refine lv_ldc2 hx hb hown (hts (.constantLong RX6 79 (97)) (List.mem_of_getElem? (i := 6) rfl)) dX6_step_72 ?_
        refine lv_ldc2 hx hb hown (hts (.constantLong RX6 81 (122)) (List.mem_of_getElem? (i := 7) rfl)) dX6_step_75 ?_
        obtain ⟨o10, hv, h⟩ := zb h
        refine z_goi (w2 := [(a_m, .inr (6, [.ref a_m_state, .ref a_m_readPage, .int m_toldOnce, .ref a_m_tape, .int m_taped, .int m_fault, .int m_broken, .int m_brokenAt, .int e5_, .int e5_, .int m_token, .int (0 : Int32), .ref a_m_cuts, .ref a_m_letters, .int m_silent, .int m_greatest, .int m_moves, .int m_holders, .ref a_m_seen, .int m_seenMany, .ref a_m_pointBy, .ref a_m_isKept, .ref a_m_lanes, .ref a_m_lengths, .ref a_m_sheetCells, .int m_torn])), (a_m_tape, .inl (k 0, 160, .inl m_tape))]) [] (va_runS (As := [.long o9.toInt64, .long (97 : Int64), .long (122 : Int64)]) (rest := []) ⟨hx, hb, hml, hown, hts⟩ (c_X6_in l G k tL tM sK sV H.size o9.toInt64 (97 : Int64) (122 : Int64) o10 hv) (va_cwS 3 hts gX6_step_X6_in rfl rfl rfl (by decide +kernel) ⟨Nat.le_of_ble_eq_true rfl, Nat.le_of_ble_eq_true rfl⟩) (z_preS (wc := []) [] hK hE hA hP hD hS (by decide) rfl) rfl rfl hl.1 rfl (lv_room (Nat.le_of_ble_eq_true rfl)) dX6_step_78 ⟨Nat.le_refl _, Nat.le_refl _⟩) hA hP hD hS rfl rfl rfl rfl (fun H locs hP hD hS => ?_)
        refine lv_if_eq (tgt := 126) hx hb dX6_step_81 (by decide) (fun c37 => ?_) (fun c37 => ?_)
        · have h := zit c37 h
          refine lv_iload_n hx hb dX6_step_126 rfl (lv_at hl 0 rfl) ?_
          refine lv_i2l (v := o9.toInt64) hx hb dX6_step_127 rfl ?_
          refine lv_ldc2 hx hb hown (hts (.constantLong RX6 83 (48)) (List.mem_of_getElem? (i := 8) rfl)) dX6_step_128 ?_
          refine lv_ldc2 hx hb hown (hts (.constantLong RX6 85 (57)) (List.mem_of_getElem? (i := 9) rfl)) dX6_step_131 ?_
          obtain ⟨o11, hv, h⟩ := zb h
          refine z_goi (w2 := [(a_m, .inr (6, [.ref a_m_state, .ref a_m_readPage, .int m_toldOnce, .ref a_m_tape, .int m_taped, .int m_fault, .int m_broken, .int m_brokenAt, .int e5_, .int e5_, .int m_token, .int (0 : Int32), .ref a_m_cuts, .ref a_m_letters, .int m_silent, .int m_greatest, .int m_moves, .int m_holders, .ref a_m_seen, .int m_seenMany, .ref a_m_pointBy, .ref a_m_isKept, .ref a_m_lanes, .ref a_m_lengths, .ref a_m_sheetCells, .int m_torn])), (a_m_tape, .inl (k 0, 160, .inl m_tape))]) [] (va_runS (As := [.long o9.toInt64, .long (48 : Int64), .long (57 : Int64)]) (rest := []) ⟨hx, hb, hml, hown, hts⟩ (c_X6_in l G k tL tM sK sV H.size o9.toInt64 (48 : Int64) (57 : Int64) o11 hv) (va_cwS 3 hts gX6_step_X6_in rfl rfl rfl (by decide +kernel) ⟨Nat.le_of_ble_eq_true rfl, Nat.le_of_ble_eq_true rfl⟩) (z_preS (wc := []) [] hK hE hA hP hD hS (by decide) rfl) rfl rfl hl.1 rfl (lv_room (Nat.le_of_ble_eq_true rfl)) dX6_step_134 ⟨Nat.le_refl _, Nat.le_refl _⟩) hA hP hD hS rfl rfl rfl rfl (fun H locs hP hD hS => ?_)
          refine lv_if_eq (tgt := 243) hx hb dX6_step_137 (by decide) (fun c27 => ?_) (fun c27 => ?_)
          · have h := zit c27 h
            refine lv_aload_n hx hb dX6_step_243 rfl (lv_at hl 1 rfl) ?_
            refine lv_iconst (v := 3) hx hb dX6_step_244 (by decide) ?_
            refine va_put (D := G) (ci := 6) (v := .int (3 : Int32)) (ty := .int) (C := RX6) (T := TX6) (N := 26) hx hb hts iw_X6_step_X6 tyX6 tyX6_ok nmX6 hown hK hP hD hS 0 rfl rfl 10 (by decide) (hts (.fieldLink RX6 66 "SpireLeanModel" "token" "I") (List.mem_of_getElem? (i := 5) rfl)) (fun _ h9 => h9) rfl (tyX6_ok 10 (by decide)) rfl rfl (Nat.le_of_ble_eq_true rfl) dX6_step_245 (fun H locs hP hD hS => ?_)
            have hP : va_P G vwCl [(a_m, .inr (6, [.ref a_m_state, .ref a_m_readPage, .int m_toldOnce, .ref a_m_tape, .int m_taped, .int m_fault, .int m_broken, .int m_brokenAt, .int e5_, .int e5_, .int (3 : Int32), .int (0 : Int32), .ref a_m_cuts, .ref a_m_letters, .int m_silent, .int m_greatest, .int m_moves, .int m_holders, .ref a_m_seen, .int m_seenMany, .ref a_m_pointBy, .ref a_m_isKept, .ref a_m_lanes, .ref a_m_lengths, .ref a_m_sheetCells, .int m_torn])), (a_m_tape, .inl (k 0, 160, .inl m_tape))] H := hP
            have hD : va_D A [(a_m, .inr (6, [.ref a_m_state, .ref a_m_readPage, .int m_toldOnce, .ref a_m_tape, .int m_taped, .int m_fault, .int m_broken, .int m_brokenAt, .int e5_, .int e5_, .int (3 : Int32), .int (0 : Int32), .ref a_m_cuts, .ref a_m_letters, .int m_silent, .int m_greatest, .int m_moves, .int m_holders, .ref a_m_seen, .int m_seenMany, .ref a_m_pointBy, .ref a_m_isKept, .ref a_m_lanes, .ref a_m_lengths, .ref a_m_sheetCells, .int m_torn])), (a_m_tape, .inl (k 0, 160, .inl m_tape))] := hD
            refine lv_aload_n hx hb dX6_step_248 rfl (lv_at hl 1 rfl) ?_
            refine lv_dup hx hb dX6_step_249 rfl ?_
            refine va_get (D := G) (ci := 6) (v := .int e5_) (C := RX6) (T := TX6) (N := 26) hx hb hts iw_X6_step_X6 hown hK hP 0 rfl rfl 8 (by decide) (hts (.fieldLink RX6 69 "SpireLeanModel" "spot" "I") (List.mem_of_getElem? (i := 2) rfl)) (fun _ h9 => h9) rfl dX6_step_250 ?_
            refine lv_iconst (v := 1) hx hb dX6_step_253 (by decide) ?_
            refine lv_iadd hx hb dX6_step_254 ?_
            refine va_put (D := G) (ci := 6) (v := .int (e5_ + (1 : Int32))) (ty := .int) (C := RX6) (T := TX6) (N := 26) hx hb hts iw_X6_step_X6 tyX6 tyX6_ok nmX6 hown hK hP hD hS 0 rfl rfl 8 (by decide) (hts (.fieldLink RX6 69 "SpireLeanModel" "spot" "I") (List.mem_of_getElem? (i := 2) rfl)) (fun _ h9 => h9) rfl (tyX6_ok 8 (by decide)) rfl rfl (Nat.le_of_ble_eq_true rfl) dX6_step_255 (fun H locs hP hD hS => ?_)
            have hP : va_P G vwCl [(a_m, .inr (6, [.ref a_m_state, .ref a_m_readPage, .int m_toldOnce, .ref a_m_tape, .int m_taped, .int m_fault, .int m_broken, .int m_brokenAt, .int (e5_ + (1 : Int32)), .int e5_, .int (3 : Int32), .int (0 : Int32), .ref a_m_cuts, .ref a_m_letters, .int m_silent, .int m_greatest, .int m_moves, .int m_holders, .ref a_m_seen, .int m_seenMany, .ref a_m_pointBy, .ref a_m_isKept, .ref a_m_lanes, .ref a_m_lengths, .ref a_m_sheetCells, .int m_torn])), (a_m_tape, .inl (k 0, 160, .inl m_tape))] H := hP
            have hD : va_D A [(a_m, .inr (6, [.ref a_m_state, .ref a_m_readPage, .int m_toldOnce, .ref a_m_tape, .int m_taped, .int m_fault, .int m_broken, .int m_brokenAt, .int (e5_ + (1 : Int32)), .int e5_, .int (3 : Int32), .int (0 : Int32), .ref a_m_cuts, .ref a_m_letters, .int m_silent, .int m_greatest, .int m_moves, .int m_holders, .ref a_m_seen, .int m_seenMany, .ref a_m_pointBy, .ref a_m_isKept, .ref a_m_lanes, .ref a_m_lengths, .ref a_m_sheetCells, .int m_torn])), (a_m_tape, .inl (k 0, 160, .inl m_tape))] := hD
            refine lv_iload_n hx hb dX6_step_258 rfl (lv_at hl 0 rfl) ?_
            refine lv_bipush (v := 59) hx hb dX6_step_259 (by decide) ?_
            refine lv_icmp_eq (tgt := 269) hx hb dX6_step_261 (by decide) (fun c13 => ?_) (fun c13 => ?_)
            · have h := zit c13 h
              have hr := (zs h)
              subst hr
              exact hret H locs ls 269 hP hS dX6_step_269
            · have h := zif c13 h
              refine lv_aload_n hx hb dX6_step_264 rfl (lv_at hl 1 rfl) ?_
              refine lv_iconst (v := 1) hx hb dX6_step_265 (by decide) ?_
              obtain ⟨o12, hv, h⟩ := zb h
              refine z_gov (w2 := [(a_m, .inr (6, [.ref a_m_state, .ref a_m_readPage, .int m_toldOnce, .ref a_m_tape, .int m_taped, .int m_fault, .int o12.1, .int o12.2, .int (e5_ + (1 : Int32)), .int e5_, .int (3 : Int32), .int (0 : Int32), .ref a_m_cuts, .ref a_m_letters, .int m_silent, .int m_greatest, .int m_moves, .int m_holders, .ref a_m_seen, .int m_seenMany, .ref a_m_pointBy, .ref a_m_isKept, .ref a_m_lanes, .ref a_m_lengths, .ref a_m_sheetCells, .int m_torn])), (a_m_tape, .inl (k 0, 160, .inl m_tape))]) [0] (va_runV (As := [.int (1 : Int32)]) (rest := []) ⟨hx, hb, hml, hown, hts⟩ (c_X6_fails l G k tL tM sK sV a_m a_m_state a_m_readPage a_m_tape a_m_cuts a_m_letters a_m_seen a_m_pointBy a_m_isKept a_m_lanes a_m_lengths a_m_sheetCells H.size m_toldOnce m_taped m_fault m_broken m_brokenAt (e5_ + (1 : Int32)) e5_ (3 : Int32) (0 : Int32) m_silent m_greatest m_moves m_holders m_seenMany m_torn (1 : Int32) o12 hv) (cwV 1 hts gX6_step_X6_fails rfl rfl rfl (by decide +kernel) ⟨Nat.le_of_ble_eq_true rfl, Nat.le_of_ble_eq_true rfl⟩) (z_preV (wc := [(a_m, .inr (6, [.ref a_m_state, .ref a_m_readPage, .int m_toldOnce, .ref a_m_tape, .int m_taped, .int m_fault, .int m_broken, .int m_brokenAt, .int (e5_ + (1 : Int32)), .int e5_, .int (3 : Int32), .int (0 : Int32), .ref a_m_cuts, .ref a_m_letters, .int m_silent, .int m_greatest, .int m_moves, .int m_holders, .ref a_m_seen, .int m_seenMany, .ref a_m_pointBy, .ref a_m_isKept, .ref a_m_lanes, .ref a_m_lengths, .ref a_m_sheetCells, .int m_torn]))]) [0] 0 6 hK hE hA hP hD hS (by decide) rfl rfl rfl) rfl rfl hl.1 rfl (lv_room (Nat.le_of_ble_eq_true rfl)) dX6_step_266 ⟨Nat.le_refl _, Nat.le_refl _⟩) hA hP hD hS rfl rfl rfl rfl (fun H locs hP hD hS => ?_)
              have hr := (zs h)
              subst hr
              exact hret H locs ls 269 hP hS dX6_step_269
          · have h := zif c27 h
            obtain ⟨e18, hv, h⟩ := zb h
            have hJ17 : ∀ (e18_ : Int32 × Int32), e18_ = e18 → zW p l e (zR 1 25) s m ([.ref a_m] : List Value).toArray below meth c Q 2 A G [(a_m, .inr (6, [.ref a_m_state, .ref a_m_readPage, .int m_toldOnce, .ref a_m_tape, .int m_taped, .int m_fault, .int m_broken, .int m_brokenAt, .int e18_.1, .int e5_, .int m_token, .int e18_.2, .ref a_m_cuts, .ref a_m_letters, .int m_silent, .int m_greatest, .int m_moves, .int m_holders, .ref a_m_seen, .int m_seenMany, .ref a_m_pointBy, .ref a_m_isKept, .ref a_m_lanes, .ref a_m_lengths, .ref a_m_sheetCells, .int m_torn])), (a_m_tape, .inl (k 0, 160, .inl m_tape))] [(0, .ref a_m)] 217 [] := by
              intro e18_ hz
              subst hz
              intro H locs ls hP hD hS hl
              refine lv_aload_n hx hb dX6_step_217 rfl (lv_at hl 0 rfl) ?_
              refine lv_iconst (v := 2) hx hb dX6_step_218 (by decide) ?_
              refine va_put (D := G) (ci := 6) (v := .int (2 : Int32)) (ty := .int) (C := RX6) (T := TX6) (N := 26) hx hb hts iw_X6_step_X6 tyX6 tyX6_ok nmX6 hown hK hP hD hS 0 rfl rfl 10 (by decide) (hts (.fieldLink RX6 66 "SpireLeanModel" "token" "I") (List.mem_of_getElem? (i := 5) rfl)) (fun _ h9 => h9) rfl (tyX6_ok 10 (by decide)) rfl rfl (Nat.le_of_ble_eq_true rfl) dX6_step_219 (fun H locs hP hD hS => ?_)
              have hP : va_P G vwCl [(a_m, .inr (6, [.ref a_m_state, .ref a_m_readPage, .int m_toldOnce, .ref a_m_tape, .int m_taped, .int m_fault, .int m_broken, .int m_brokenAt, .int e18_.1, .int e5_, .int (2 : Int32), .int e18_.2, .ref a_m_cuts, .ref a_m_letters, .int m_silent, .int m_greatest, .int m_moves, .int m_holders, .ref a_m_seen, .int m_seenMany, .ref a_m_pointBy, .ref a_m_isKept, .ref a_m_lanes, .ref a_m_lengths, .ref a_m_sheetCells, .int m_torn])), (a_m_tape, .inl (k 0, 160, .inl m_tape))] H := hP
              have hD : va_D A [(a_m, .inr (6, [.ref a_m_state, .ref a_m_readPage, .int m_toldOnce, .ref a_m_tape, .int m_taped, .int m_fault, .int m_broken, .int m_brokenAt, .int e18_.1, .int e5_, .int (2 : Int32), .int e18_.2, .ref a_m_cuts, .ref a_m_letters, .int m_silent, .int m_greatest, .int m_moves, .int m_holders, .ref a_m_seen, .int m_seenMany, .ref a_m_pointBy, .ref a_m_isKept, .ref a_m_lanes, .ref a_m_lengths, .ref a_m_sheetCells, .int m_torn])), (a_m_tape, .inl (k 0, 160, .inl m_tape))] := hD
              refine lv_aload_n hx hb dX6_step_222 rfl (lv_at hl 0 rfl) ?_
              refine va_get (D := G) (ci := 6) (v := .int e18_.1) (C := RX6) (T := TX6) (N := 26) hx hb hts iw_X6_step_X6 hown hK hP 0 rfl rfl 8 (by decide) (hts (.fieldLink RX6 69 "SpireLeanModel" "spot" "I") (List.mem_of_getElem? (i := 2) rfl)) (fun _ h9 => h9) rfl dX6_step_223 ?_
              refine lv_aload_n hx hb dX6_step_226 rfl (lv_at hl 0 rfl) ?_
              refine va_get (D := G) (ci := 6) (v := .int e5_) (C := RX6) (T := TX6) (N := 26) hx hb hts iw_X6_step_X6 hown hK hP 0 rfl rfl 9 (by decide) (hts (.fieldLink RX6 60 "SpireLeanModel" "here" "I") (List.mem_of_getElem? (i := 3) rfl)) (fun _ h9 => h9) rfl dX6_step_227 ?_
              refine lv_isub hx hb dX6_step_230 ?_
              refine lv_iconst (v := 2) hx hb dX6_step_231 (by decide) ?_
              refine lv_icmp_le (tgt := 269) hx hb dX6_step_232 (by decide) (fun c26 => ?_) (fun c26 => ?_)
              · have h := zit c26 h
                have hr := (zs h)
                subst hr
                exact hret H locs ls 269 hP hS dX6_step_269
              · have h := zif c26 h
                refine lv_aload_n hx hb dX6_step_235 rfl (lv_at hl 0 rfl) ?_
                refine lv_iconst (v := 1) hx hb dX6_step_236 (by decide) ?_
                obtain ⟨o25, hv, h⟩ := zb h
                refine z_gov (w2 := [(a_m, .inr (6, [.ref a_m_state, .ref a_m_readPage, .int m_toldOnce, .ref a_m_tape, .int m_taped, .int m_fault, .int o25.1, .int o25.2, .int e18_.1, .int e5_, .int (2 : Int32), .int e18_.2, .ref a_m_cuts, .ref a_m_letters, .int m_silent, .int m_greatest, .int m_moves, .int m_holders, .ref a_m_seen, .int m_seenMany, .ref a_m_pointBy, .ref a_m_isKept, .ref a_m_lanes, .ref a_m_lengths, .ref a_m_sheetCells, .int m_torn])), (a_m_tape, .inl (k 0, 160, .inl m_tape))]) [0] (va_runV (As := [.int (1 : Int32)]) (rest := []) ⟨hx, hb, hml, hown, hts⟩ (c_X6_fails l G k tL tM sK sV a_m a_m_state a_m_readPage a_m_tape a_m_cuts a_m_letters a_m_seen a_m_pointBy a_m_isKept a_m_lanes a_m_lengths a_m_sheetCells H.size m_toldOnce m_taped m_fault m_broken m_brokenAt e18_.1 e5_ (2 : Int32) e18_.2 m_silent m_greatest m_moves m_holders m_seenMany m_torn (1 : Int32) o25 hv) (cwV 1 hts gX6_step_X6_fails rfl rfl rfl (by decide +kernel) ⟨Nat.le_of_ble_eq_true rfl, Nat.le_of_ble_eq_true rfl⟩) (z_preV (wc := [(a_m, .inr (6, [.ref a_m_state, .ref a_m_readPage, .int m_toldOnce, .ref a_m_tape, .int m_taped, .int m_fault, .int m_broken, .int m_brokenAt, .int e18_.1, .int e5_, .int (2 : Int32), .int e18_.2, .ref a_m_cuts, .ref a_m_letters, .int m_silent, .int m_greatest, .int m_moves, .int m_holders, .ref a_m_seen, .int m_seenMany, .ref a_m_pointBy, .ref a_m_isKept, .ref a_m_lanes, .ref a_m_lengths, .ref a_m_sheetCells, .int m_torn]))]) [0] 0 6 hK hE hA hP hD hS (by decide) rfl rfl rfl) rfl rfl hl.1 rfl (lv_room (Nat.le_of_ble_eq_true rfl)) dX6_step_237 ⟨Nat.le_refl _, Nat.le_refl _⟩) hA hP hD hS rfl rfl rfl rfl (fun H locs hP hD hS => ?_)
                refine lv_goto (tgt := 269) hx hb dX6_step_240 (by decide) ?_
                have hr := (zs h)
                subst hr
                exact hret H locs ls 269 hP hS dX6_step_269
            refine z_lpW (Wh := fun (x14 : Int32 × Int32) => zW p l e (zR 1 25) s m ([.ref a_m] : List Value).toArray below meth c Q 2 A G [(a_m, .inr (6, [.ref a_m_state, .ref a_m_readPage, .int m_toldOnce, .ref a_m_tape, .int m_taped, .int m_fault, .int m_broken, .int m_brokenAt, .int x14.1, .int e5_, .int m_token, .int x14.2, .ref a_m_cuts, .ref a_m_letters, .int m_silent, .int m_greatest, .int m_moves, .int m_holders, .ref a_m_seen, .int m_seenMany, .ref a_m_pointBy, .ref a_m_isKept, .ref a_m_lanes, .ref a_m_lengths, .ref a_m_sheetCells, .int m_torn])), (a_m_tape, .inl (k 0, 160, .inl m_tape))] [(0, .ref a_m)] 140 []) ?_ 1000 _ hv H locs ls hP hD hS (lv_sub hl [1] rfl)
            clear h
            intro x14 o h hC15 hX16 H locs ls hP hD hS hl
            unfold p_X6_step_b140 at h
            refine lv_aload_n hx hb dX6_step_140 rfl (lv_at hl 0 rfl) ?_
            refine lv_aload_n hx hb dX6_step_141 rfl (lv_at hl 0 rfl) ?_
            refine va_get (D := G) (ci := 6) (v := .int x14.1) (C := RX6) (T := TX6) (N := 26) hx hb hts iw_X6_step_X6 hown hK hP 0 rfl rfl 8 (by decide) (hts (.fieldLink RX6 69 "SpireLeanModel" "spot" "I") (List.mem_of_getElem? (i := 2) rfl)) (fun _ h9 => h9) rfl dX6_step_142 ?_
            obtain ⟨o20, hv, h⟩ := zb h
            refine z_goi (w2 := [(a_m, .inr (6, [.ref a_m_state, .ref a_m_readPage, .int m_toldOnce, .ref a_m_tape, .int m_taped, .int m_fault, .int m_broken, .int m_brokenAt, .int x14.1, .int e5_, .int m_token, .int x14.2, .ref a_m_cuts, .ref a_m_letters, .int m_silent, .int m_greatest, .int m_moves, .int m_holders, .ref a_m_seen, .int m_seenMany, .ref a_m_pointBy, .ref a_m_isKept, .ref a_m_lanes, .ref a_m_lengths, .ref a_m_sheetCells, .int m_torn])), (a_m_tape, .inl (k 0, 160, .inl m_tape))]) [0, 1] (va_runV (As := [.int x14.1]) (rest := []) ⟨hx, hb, hml, hown, hts⟩ (c_X6_byteAt l G k tL tM sK sV a_m a_m_state a_m_readPage a_m_tape a_m_cuts a_m_letters a_m_seen a_m_pointBy a_m_isKept a_m_lanes a_m_lengths a_m_sheetCells H.size m_toldOnce m_taped m_fault m_broken m_brokenAt x14.1 e5_ m_token x14.2 m_silent m_greatest m_moves m_holders m_seenMany m_torn m_tape x14.1 o20 hv) (cwV 1 hts gX6_step_X6_byteAt rfl rfl rfl (by decide +kernel) ⟨Nat.le_of_ble_eq_true rfl, Nat.le_of_ble_eq_true rfl⟩) (z_preV (wc := [(a_m, .inr (6, [.ref a_m_state, .ref a_m_readPage, .int m_toldOnce, .ref a_m_tape, .int m_taped, .int m_fault, .int m_broken, .int m_brokenAt, .int x14.1, .int e5_, .int m_token, .int x14.2, .ref a_m_cuts, .ref a_m_letters, .int m_silent, .int m_greatest, .int m_moves, .int m_holders, .ref a_m_seen, .int m_seenMany, .ref a_m_pointBy, .ref a_m_isKept, .ref a_m_lanes, .ref a_m_lengths, .ref a_m_sheetCells, .int m_torn])), (a_m_tape, .inl (k 0, 160, .inl m_tape))]) [0, 1] 0 6 hK hE hA hP hD hS (by decide) rfl rfl rfl) rfl rfl hl.1 rfl (lv_room (Nat.le_of_ble_eq_true rfl)) dX6_step_145 ⟨Nat.le_refl _, Nat.le_refl _⟩) hA hP hD hS rfl rfl rfl rfl (fun H locs hP hD hS => ?_)
            refine lv_i2l (v := o20.toInt64) hx hb dX6_step_148 rfl ?_
            refine lv_ldc2 hx hb hown (hts (.constantLong RX6 83 (48)) (List.mem_of_getElem? (i := 8) rfl)) dX6_step_149 ?_
            refine lv_ldc2 hx hb hown (hts (.constantLong RX6 85 (57)) (List.mem_of_getElem? (i := 9) rfl)) dX6_step_152 ?_
            obtain ⟨o21, hv, h⟩ := zb h
            refine z_goi (w2 := [(a_m, .inr (6, [.ref a_m_state, .ref a_m_readPage, .int m_toldOnce, .ref a_m_tape, .int m_taped, .int m_fault, .int m_broken, .int m_brokenAt, .int x14.1, .int e5_, .int m_token, .int x14.2, .ref a_m_cuts, .ref a_m_letters, .int m_silent, .int m_greatest, .int m_moves, .int m_holders, .ref a_m_seen, .int m_seenMany, .ref a_m_pointBy, .ref a_m_isKept, .ref a_m_lanes, .ref a_m_lengths, .ref a_m_sheetCells, .int m_torn])), (a_m_tape, .inl (k 0, 160, .inl m_tape))]) [] (va_runS (As := [.long o20.toInt64, .long (48 : Int64), .long (57 : Int64)]) (rest := []) ⟨hx, hb, hml, hown, hts⟩ (c_X6_in l G k tL tM sK sV H.size o20.toInt64 (48 : Int64) (57 : Int64) o21 hv) (va_cwS 3 hts gX6_step_X6_in rfl rfl rfl (by decide +kernel) ⟨Nat.le_of_ble_eq_true rfl, Nat.le_of_ble_eq_true rfl⟩) (z_preS (wc := []) [] hK hE hA hP hD hS (by decide) rfl) rfl rfl hl.1 rfl (lv_room (Nat.le_of_ble_eq_true rfl)) dX6_step_155 ⟨Nat.le_refl _, Nat.le_refl _⟩) hA hP hD hS rfl rfl rfl rfl (fun H locs hP hD hS => ?_)
            refine lv_if_eq (tgt := 217) hx hb dX6_step_158 (by decide) (fun c24 => ?_) (fun c24 => ?_)
            · have h := zit c24 h
              exact hJ17 _ (hX16 _ (zs h)) H locs ls hP hD hS (lv_sub hl [0] rfl)
            · have h := zif c24 h
              refine lv_aload_n hx hb dX6_step_161 rfl (lv_at hl 0 rfl) ?_
              refine lv_aload_n hx hb dX6_step_162 rfl (lv_at hl 0 rfl) ?_
              refine va_get (D := G) (ci := 6) (v := .int x14.1) (C := RX6) (T := TX6) (N := 26) hx hb hts iw_X6_step_X6 hown hK hP 0 rfl rfl 8 (by decide) (hts (.fieldLink RX6 69 "SpireLeanModel" "spot" "I") (List.mem_of_getElem? (i := 2) rfl)) (fun _ h9 => h9) rfl dX6_step_163 ?_
              refine lv_aload_n hx hb dX6_step_166 rfl (lv_at hl 0 rfl) ?_
              refine va_get (D := G) (ci := 6) (v := .int e5_) (C := RX6) (T := TX6) (N := 26) hx hb hts iw_X6_step_X6 hown hK hP 0 rfl rfl 9 (by decide) (hts (.fieldLink RX6 60 "SpireLeanModel" "here" "I") (List.mem_of_getElem? (i := 3) rfl)) (fun _ h9 => h9) rfl dX6_step_167 ?_
              refine lv_isub hx hb dX6_step_170 ?_
              refine lv_iconst (v := 2) hx hb dX6_step_171 (by decide) ?_
              refine lv_icmp_ge (tgt := 197) hx hb dX6_step_172 (by decide) (fun c23 => ?_) (fun c23 => ?_)
              · have h := zit c23 h
                refine lv_aload_n hx hb dX6_step_197 rfl (lv_at hl 0 rfl) ?_
                refine va_get (D := G) (ci := 6) (v := .int x14.2) (C := RX6) (T := TX6) (N := 26) hx hb hts iw_X6_step_X6 hown hK hP 0 rfl rfl 11 (by decide) (hts (.fieldLink RX6 76 "SpireLeanModel" "value" "I") (List.mem_of_getElem? (i := 4) rfl)) (fun _ h9 => h9) rfl dX6_step_198 ?_
                refine va_put (D := G) (ci := 6) (v := .int x14.2) (ty := .int) (C := RX6) (T := TX6) (N := 26) hx hb hts iw_X6_step_X6 tyX6 tyX6_ok nmX6 hown hK hP hD hS 0 rfl rfl 11 (by decide) (hts (.fieldLink RX6 76 "SpireLeanModel" "value" "I") (List.mem_of_getElem? (i := 4) rfl)) (fun _ h9 => h9) rfl (tyX6_ok 11 (by decide)) rfl rfl (Nat.le_of_ble_eq_true rfl) dX6_step_201 (fun H locs hP hD hS => ?_)
                have hP : va_P G vwCl [(a_m, .inr (6, [.ref a_m_state, .ref a_m_readPage, .int m_toldOnce, .ref a_m_tape, .int m_taped, .int m_fault, .int m_broken, .int m_brokenAt, .int x14.1, .int e5_, .int m_token, .int x14.2, .ref a_m_cuts, .ref a_m_letters, .int m_silent, .int m_greatest, .int m_moves, .int m_holders, .ref a_m_seen, .int m_seenMany, .ref a_m_pointBy, .ref a_m_isKept, .ref a_m_lanes, .ref a_m_lengths, .ref a_m_sheetCells, .int m_torn])), (a_m_tape, .inl (k 0, 160, .inl m_tape))] H := hP
                have hD : va_D A [(a_m, .inr (6, [.ref a_m_state, .ref a_m_readPage, .int m_toldOnce, .ref a_m_tape, .int m_taped, .int m_fault, .int m_broken, .int m_brokenAt, .int x14.1, .int e5_, .int m_token, .int x14.2, .ref a_m_cuts, .ref a_m_letters, .int m_silent, .int m_greatest, .int m_moves, .int m_holders, .ref a_m_seen, .int m_seenMany, .ref a_m_pointBy, .ref a_m_isKept, .ref a_m_lanes, .ref a_m_lengths, .ref a_m_sheetCells, .int m_torn])), (a_m_tape, .inl (k 0, 160, .inl m_tape))] := hD
                refine lv_aload_n hx hb dX6_step_204 rfl (lv_at hl 0 rfl) ?_
                refine lv_dup hx hb dX6_step_205 rfl ?_
                refine va_get (D := G) (ci := 6) (v := .int x14.1) (C := RX6) (T := TX6) (N := 26) hx hb hts iw_X6_step_X6 hown hK hP 0 rfl rfl 8 (by decide) (hts (.fieldLink RX6 69 "SpireLeanModel" "spot" "I") (List.mem_of_getElem? (i := 2) rfl)) (fun _ h9 => h9) rfl dX6_step_206 ?_
                refine lv_iconst (v := 1) hx hb dX6_step_209 (by decide) ?_
                refine lv_iadd hx hb dX6_step_210 ?_
                refine va_put (D := G) (ci := 6) (v := .int (x14.1 + (1 : Int32))) (ty := .int) (C := RX6) (T := TX6) (N := 26) hx hb hts iw_X6_step_X6 tyX6 tyX6_ok nmX6 hown hK hP hD hS 0 rfl rfl 8 (by decide) (hts (.fieldLink RX6 69 "SpireLeanModel" "spot" "I") (List.mem_of_getElem? (i := 2) rfl)) (fun _ h9 => h9) rfl (tyX6_ok 8 (by decide)) rfl rfl (Nat.le_of_ble_eq_true rfl) dX6_step_211 (fun H locs hP hD hS => ?_)
                have hP : va_P G vwCl [(a_m, .inr (6, [.ref a_m_state, .ref a_m_readPage, .int m_toldOnce, .ref a_m_tape, .int m_taped, .int m_fault, .int m_broken, .int m_brokenAt, .int (x14.1 + (1 : Int32)), .int e5_, .int m_token, .int x14.2, .ref a_m_cuts, .ref a_m_letters, .int m_silent, .int m_greatest, .int m_moves, .int m_holders, .ref a_m_seen, .int m_seenMany, .ref a_m_pointBy, .ref a_m_isKept, .ref a_m_lanes, .ref a_m_lengths, .ref a_m_sheetCells, .int m_torn])), (a_m_tape, .inl (k 0, 160, .inl m_tape))] H := hP
                have hD : va_D A [(a_m, .inr (6, [.ref a_m_state, .ref a_m_readPage, .int m_toldOnce, .ref a_m_tape, .int m_taped, .int m_fault, .int m_broken, .int m_brokenAt, .int (x14.1 + (1 : Int32)), .int e5_, .int m_token, .int x14.2, .ref a_m_cuts, .ref a_m_letters, .int m_silent, .int m_greatest, .int m_moves, .int m_holders, .ref a_m_seen, .int m_seenMany, .ref a_m_pointBy, .ref a_m_isKept, .ref a_m_lanes, .ref a_m_lengths, .ref a_m_sheetCells, .int m_torn])), (a_m_tape, .inl (k 0, 160, .inl m_tape))] := hD
                refine lv_goto (tgt := 140) hx hb dX6_step_214 (by decide) ?_
                exact hC15 _ (zs h) H locs ls hP hD hS (lv_sub hl [0] rfl)
              · have h := zif c23 h
                refine lv_bipush (v := 10) hx hb dX6_step_175 (by decide) ?_
                refine lv_aload_n hx hb dX6_step_177 rfl (lv_at hl 0 rfl) ?_
                refine va_get (D := G) (ci := 6) (v := .int x14.2) (C := RX6) (T := TX6) (N := 26) hx hb hts iw_X6_step_X6 hown hK hP 0 rfl rfl 11 (by decide) (hts (.fieldLink RX6 76 "SpireLeanModel" "value" "I") (List.mem_of_getElem? (i := 4) rfl)) (fun _ h9 => h9) rfl dX6_step_178 ?_
                refine lv_imul hx hb dX6_step_181 ?_
                refine lv_aload_n hx hb dX6_step_182 rfl (lv_at hl 0 rfl) ?_
                refine lv_aload_n hx hb dX6_step_183 rfl (lv_at hl 0 rfl) ?_
                refine va_get (D := G) (ci := 6) (v := .int x14.1) (C := RX6) (T := TX6) (N := 26) hx hb hts iw_X6_step_X6 hown hK hP 0 rfl rfl 8 (by decide) (hts (.fieldLink RX6 69 "SpireLeanModel" "spot" "I") (List.mem_of_getElem? (i := 2) rfl)) (fun _ h9 => h9) rfl dX6_step_184 ?_
                obtain ⟨o22, hv, h⟩ := zb h
                refine z_goi (w2 := [(a_m, .inr (6, [.ref a_m_state, .ref a_m_readPage, .int m_toldOnce, .ref a_m_tape, .int m_taped, .int m_fault, .int m_broken, .int m_brokenAt, .int x14.1, .int e5_, .int m_token, .int x14.2, .ref a_m_cuts, .ref a_m_letters, .int m_silent, .int m_greatest, .int m_moves, .int m_holders, .ref a_m_seen, .int m_seenMany, .ref a_m_pointBy, .ref a_m_isKept, .ref a_m_lanes, .ref a_m_lengths, .ref a_m_sheetCells, .int m_torn])), (a_m_tape, .inl (k 0, 160, .inl m_tape))]) [0, 1] (va_runV (As := [.int x14.1]) (rest := [.int ((10 : Int32) * x14.2), .ref a_m]) ⟨hx, hb, hml, hown, hts⟩ (c_X6_byteAt l G k tL tM sK sV a_m a_m_state a_m_readPage a_m_tape a_m_cuts a_m_letters a_m_seen a_m_pointBy a_m_isKept a_m_lanes a_m_lengths a_m_sheetCells H.size m_toldOnce m_taped m_fault m_broken m_brokenAt x14.1 e5_ m_token x14.2 m_silent m_greatest m_moves m_holders m_seenMany m_torn m_tape x14.1 o22 hv) (cwV 1 hts gX6_step_X6_byteAt rfl rfl rfl (by decide +kernel) ⟨Nat.le_of_ble_eq_true rfl, Nat.le_of_ble_eq_true rfl⟩) (z_preV (wc := [(a_m, .inr (6, [.ref a_m_state, .ref a_m_readPage, .int m_toldOnce, .ref a_m_tape, .int m_taped, .int m_fault, .int m_broken, .int m_brokenAt, .int x14.1, .int e5_, .int m_token, .int x14.2, .ref a_m_cuts, .ref a_m_letters, .int m_silent, .int m_greatest, .int m_moves, .int m_holders, .ref a_m_seen, .int m_seenMany, .ref a_m_pointBy, .ref a_m_isKept, .ref a_m_lanes, .ref a_m_lengths, .ref a_m_sheetCells, .int m_torn])), (a_m_tape, .inl (k 0, 160, .inl m_tape))]) [0, 1] 0 6 hK hE hA hP hD hS (by decide) rfl rfl rfl) rfl rfl hl.1 rfl (lv_room (Nat.le_of_ble_eq_true rfl)) dX6_step_187 ⟨Nat.le_refl _, Nat.le_refl _⟩) hA hP hD hS rfl rfl rfl rfl (fun H locs hP hD hS => ?_)
                refine lv_iadd hx hb dX6_step_190 ?_
                refine lv_bipush (v := 48) hx hb dX6_step_191 (by decide) ?_
                refine lv_isub hx hb dX6_step_193 ?_
                refine lv_goto (tgt := 201) hx hb dX6_step_194 (by decide) ?_
                refine va_put (D := G) (ci := 6) (v := .int ((((10 : Int32) * x14.2) + o22) - (48 : Int32))) (ty := .int) (C := RX6) (T := TX6) (N := 26) hx hb hts iw_X6_step_X6 tyX6 tyX6_ok nmX6 hown hK hP hD hS 0 rfl rfl 11 (by decide) (hts (.fieldLink RX6 76 "SpireLeanModel" "value" "I") (List.mem_of_getElem? (i := 4) rfl)) (fun _ h9 => h9) rfl (tyX6_ok 11 (by decide)) rfl rfl (Nat.le_of_ble_eq_true rfl) dX6_step_201 (fun H locs hP hD hS => ?_)
                have hP : va_P G vwCl [(a_m, .inr (6, [.ref a_m_state, .ref a_m_readPage, .int m_toldOnce, .ref a_m_tape, .int m_taped, .int m_fault, .int m_broken, .int m_brokenAt, .int x14.1, .int e5_, .int m_token, .int ((((10 : Int32) * x14.2) + o22) - (48 : Int32)), .ref a_m_cuts, .ref a_m_letters, .int m_silent, .int m_greatest, .int m_moves, .int m_holders, .ref a_m_seen, .int m_seenMany, .ref a_m_pointBy, .ref a_m_isKept, .ref a_m_lanes, .ref a_m_lengths, .ref a_m_sheetCells, .int m_torn])), (a_m_tape, .inl (k 0, 160, .inl m_tape))] H := hP
                have hD : va_D A [(a_m, .inr (6, [.ref a_m_state, .ref a_m_readPage, .int m_toldOnce, .ref a_m_tape, .int m_taped, .int m_fault, .int m_broken, .int m_brokenAt, .int x14.1, .int e5_, .int m_token, .int ((((10 : Int32) * x14.2) + o22) - (48 : Int32)), .ref a_m_cuts, .ref a_m_letters, .int m_silent, .int m_greatest, .int m_moves, .int m_holders, .ref a_m_seen, .int m_seenMany, .ref a_m_pointBy, .ref a_m_isKept, .ref a_m_lanes, .ref a_m_lengths, .ref a_m_sheetCells, .int m_torn])), (a_m_tape, .inl (k 0, 160, .inl m_tape))] := hD
                refine lv_aload_n hx hb dX6_step_204 rfl (lv_at hl 0 rfl) ?_
                refine lv_dup hx hb dX6_step_205 rfl ?_
                refine va_get (D := G) (ci := 6) (v := .int x14.1) (C := RX6) (T := TX6) (N := 26) hx hb hts iw_X6_step_X6 hown hK hP 0 rfl rfl 8 (by decide) (hts (.fieldLink RX6 69 "SpireLeanModel" "spot" "I") (List.mem_of_getElem? (i := 2) rfl)) (fun _ h9 => h9) rfl dX6_step_206 ?_
                refine lv_iconst (v := 1) hx hb dX6_step_209 (by decide) ?_
                refine lv_iadd hx hb dX6_step_210 ?_
                refine va_put (D := G) (ci := 6) (v := .int (x14.1 + (1 : Int32))) (ty := .int) (C := RX6) (T := TX6) (N := 26) hx hb hts iw_X6_step_X6 tyX6 tyX6_ok nmX6 hown hK hP hD hS 0 rfl rfl 8 (by decide) (hts (.fieldLink RX6 69 "SpireLeanModel" "spot" "I") (List.mem_of_getElem? (i := 2) rfl)) (fun _ h9 => h9) rfl (tyX6_ok 8 (by decide)) rfl rfl (Nat.le_of_ble_eq_true rfl) dX6_step_211 (fun H locs hP hD hS => ?_)
                have hP : va_P G vwCl [(a_m, .inr (6, [.ref a_m_state, .ref a_m_readPage, .int m_toldOnce, .ref a_m_tape, .int m_taped, .int m_fault, .int m_broken, .int m_brokenAt, .int (x14.1 + (1 : Int32)), .int e5_, .int m_token, .int ((((10 : Int32) * x14.2) + o22) - (48 : Int32)), .ref a_m_cuts, .ref a_m_letters, .int m_silent, .int m_greatest, .int m_moves, .int m_holders, .ref a_m_seen, .int m_seenMany, .ref a_m_pointBy, .ref a_m_isKept, .ref a_m_lanes, .ref a_m_lengths, .ref a_m_sheetCells, .int m_torn])), (a_m_tape, .inl (k 0, 160, .inl m_tape))] H := hP
                have hD : va_D A [(a_m, .inr (6, [.ref a_m_state, .ref a_m_readPage, .int m_toldOnce, .ref a_m_tape, .int m_taped, .int m_fault, .int m_broken, .int m_brokenAt, .int (x14.1 + (1 : Int32)), .int e5_, .int m_token, .int ((((10 : Int32) * x14.2) + o22) - (48 : Int32)), .ref a_m_cuts, .ref a_m_letters, .int m_silent, .int m_greatest, .int m_moves, .int m_holders, .ref a_m_seen, .int m_seenMany, .ref a_m_pointBy, .ref a_m_isKept, .ref a_m_lanes, .ref a_m_lengths, .ref a_m_sheetCells, .int m_torn])), (a_m_tape, .inl (k 0, 160, .inl m_tape))] := hD
                refine lv_goto (tgt := 140) hx hb dX6_step_214 (by decide) ?_
                exact hC15 _ (zs h) H locs ls hP hD hS (lv_sub hl [0] rfl)
        · have h := zif c37 h
          obtain ⟨e32, hv, h⟩ := zb h
          have hJ31 : ∀ (e32_ : Int32), e32_ = e32 → zW p l e (zR 1 25) s m ([.ref a_m] : List Value).toArray below meth c Q 2 A G [(a_m, .inr (6, [.ref a_m_state, .ref a_m_readPage, .int m_toldOnce, .ref a_m_tape, .int m_taped, .int m_fault, .int m_broken, .int m_brokenAt, .int e32_, .int e5_, .int m_token, .int (0 : Int32), .ref a_m_cuts, .ref a_m_letters, .int m_silent, .int m_greatest, .int m_moves, .int m_holders, .ref a_m_seen, .int m_seenMany, .ref a_m_pointBy, .ref a_m_isKept, .ref a_m_lanes, .ref a_m_lengths, .ref a_m_sheetCells, .int m_torn])), (a_m_tape, .inl (k 0, 160, .inl m_tape))] [(0, .ref a_m)] 118 [] := by
            intro e32_ hz
            subst hz
            intro H locs ls hP hD hS hl
            refine lv_aload_n hx hb dX6_step_118 rfl (lv_at hl 0 rfl) ?_
            refine lv_iconst (v := 1) hx hb dX6_step_119 (by decide) ?_
            refine va_put (D := G) (ci := 6) (v := .int (1 : Int32)) (ty := .int) (C := RX6) (T := TX6) (N := 26) hx hb hts iw_X6_step_X6 tyX6 tyX6_ok nmX6 hown hK hP hD hS 0 rfl rfl 10 (by decide) (hts (.fieldLink RX6 66 "SpireLeanModel" "token" "I") (List.mem_of_getElem? (i := 5) rfl)) (fun _ h9 => h9) rfl (tyX6_ok 10 (by decide)) rfl rfl (Nat.le_of_ble_eq_true rfl) dX6_step_120 (fun H locs hP hD hS => ?_)
            have hP : va_P G vwCl [(a_m, .inr (6, [.ref a_m_state, .ref a_m_readPage, .int m_toldOnce, .ref a_m_tape, .int m_taped, .int m_fault, .int m_broken, .int m_brokenAt, .int e32_, .int e5_, .int (1 : Int32), .int (0 : Int32), .ref a_m_cuts, .ref a_m_letters, .int m_silent, .int m_greatest, .int m_moves, .int m_holders, .ref a_m_seen, .int m_seenMany, .ref a_m_pointBy, .ref a_m_isKept, .ref a_m_lanes, .ref a_m_lengths, .ref a_m_sheetCells, .int m_torn])), (a_m_tape, .inl (k 0, 160, .inl m_tape))] H := hP
            have hD : va_D A [(a_m, .inr (6, [.ref a_m_state, .ref a_m_readPage, .int m_toldOnce, .ref a_m_tape, .int m_taped, .int m_fault, .int m_broken, .int m_brokenAt, .int e32_, .int e5_, .int (1 : Int32), .int (0 : Int32), .ref a_m_cuts, .ref a_m_letters, .int m_silent, .int m_greatest, .int m_moves, .int m_holders, .ref a_m_seen, .int m_seenMany, .ref a_m_pointBy, .ref a_m_isKept, .ref a_m_lanes, .ref a_m_lengths, .ref a_m_sheetCells, .int m_torn])), (a_m_tape, .inl (k 0, 160, .inl m_tape))] := hD
            refine lv_goto (tgt := 269) hx hb dX6_step_123 (by decide) ?_
            have hr := (zs h)
            subst hr
            exact hret H locs ls 269 hP hS dX6_step_269
          refine z_lpW (Wh := fun (x28 : Int32) => zW p l e (zR 1 25) s m ([.ref a_m] : List Value).toArray below meth c Q 2 A G [(a_m, .inr (6, [.ref a_m_state, .ref a_m_readPage, .int m_toldOnce, .ref a_m_tape, .int m_taped, .int m_fault, .int m_broken, .int m_brokenAt, .int x28, .int e5_, .int m_token, .int (0 : Int32), .ref a_m_cuts, .ref a_m_letters, .int m_silent, .int m_greatest, .int m_moves, .int m_holders, .ref a_m_seen, .int m_seenMany, .ref a_m_pointBy, .ref a_m_isKept, .ref a_m_lanes, .ref a_m_lengths, .ref a_m_sheetCells, .int m_torn])), (a_m_tape, .inl (k 0, 160, .inl m_tape))] [(0, .ref a_m)] 84 []) ?_ 1000 _ hv H locs ls hP hD hS (lv_sub hl [1] rfl)
          clear h
          intro x28 o h hC29 hX30 H locs ls hP hD hS hl
          unfold p_X6_step_b84 at h
          refine lv_aload_n hx hb dX6_step_84 rfl (lv_at hl 0 rfl) ?_
          refine lv_aload_n hx hb dX6_step_85 rfl (lv_at hl 0 rfl) ?_
          refine va_get (D := G) (ci := 6) (v := .int x28) (C := RX6) (T := TX6) (N := 26) hx hb hts iw_X6_step_X6 hown hK hP 0 rfl rfl 8 (by decide) (hts (.fieldLink RX6 69 "SpireLeanModel" "spot" "I") (List.mem_of_getElem? (i := 2) rfl)) (fun _ h9 => h9) rfl dX6_step_86 ?_
          obtain ⟨o34, hv, h⟩ := zb h
          refine z_goi (w2 := [(a_m, .inr (6, [.ref a_m_state, .ref a_m_readPage, .int m_toldOnce, .ref a_m_tape, .int m_taped, .int m_fault, .int m_broken, .int m_brokenAt, .int x28, .int e5_, .int m_token, .int (0 : Int32), .ref a_m_cuts, .ref a_m_letters, .int m_silent, .int m_greatest, .int m_moves, .int m_holders, .ref a_m_seen, .int m_seenMany, .ref a_m_pointBy, .ref a_m_isKept, .ref a_m_lanes, .ref a_m_lengths, .ref a_m_sheetCells, .int m_torn])), (a_m_tape, .inl (k 0, 160, .inl m_tape))]) [0, 1] (va_runV (As := [.int x28]) (rest := []) ⟨hx, hb, hml, hown, hts⟩ (c_X6_byteAt l G k tL tM sK sV a_m a_m_state a_m_readPage a_m_tape a_m_cuts a_m_letters a_m_seen a_m_pointBy a_m_isKept a_m_lanes a_m_lengths a_m_sheetCells H.size m_toldOnce m_taped m_fault m_broken m_brokenAt x28 e5_ m_token (0 : Int32) m_silent m_greatest m_moves m_holders m_seenMany m_torn m_tape x28 o34 hv) (cwV 1 hts gX6_step_X6_byteAt rfl rfl rfl (by decide +kernel) ⟨Nat.le_of_ble_eq_true rfl, Nat.le_of_ble_eq_true rfl⟩) (z_preV (wc := [(a_m, .inr (6, [.ref a_m_state, .ref a_m_readPage, .int m_toldOnce, .ref a_m_tape, .int m_taped, .int m_fault, .int m_broken, .int m_brokenAt, .int x28, .int e5_, .int m_token, .int (0 : Int32), .ref a_m_cuts, .ref a_m_letters, .int m_silent, .int m_greatest, .int m_moves, .int m_holders, .ref a_m_seen, .int m_seenMany, .ref a_m_pointBy, .ref a_m_isKept, .ref a_m_lanes, .ref a_m_lengths, .ref a_m_sheetCells, .int m_torn])), (a_m_tape, .inl (k 0, 160, .inl m_tape))]) [0, 1] 0 6 hK hE hA hP hD hS (by decide) rfl rfl rfl) rfl rfl hl.1 rfl (lv_room (Nat.le_of_ble_eq_true rfl)) dX6_step_89 ⟨Nat.le_refl _, Nat.le_refl _⟩) hA hP hD hS rfl rfl rfl rfl (fun H locs hP hD hS => ?_)
          refine lv_i2l (v := o34.toInt64) hx hb dX6_step_92 rfl ?_
          refine lv_ldc2 hx hb hown (hts (.constantLong RX6 79 (97)) (List.mem_of_getElem? (i := 6) rfl)) dX6_step_93 ?_
          refine lv_ldc2 hx hb hown (hts (.constantLong RX6 81 (122)) (List.mem_of_getElem? (i := 7) rfl)) dX6_step_96 ?_
          obtain ⟨o35, hv, h⟩ := zb h
          refine z_goi (w2 := [(a_m, .inr (6, [.ref a_m_state, .ref a_m_readPage, .int m_toldOnce, .ref a_m_tape, .int m_taped, .int m_fault, .int m_broken, .int m_brokenAt, .int x28, .int e5_, .int m_token, .int (0 : Int32), .ref a_m_cuts, .ref a_m_letters, .int m_silent, .int m_greatest, .int m_moves, .int m_holders, .ref a_m_seen, .int m_seenMany, .ref a_m_pointBy, .ref a_m_isKept, .ref a_m_lanes, .ref a_m_lengths, .ref a_m_sheetCells, .int m_torn])), (a_m_tape, .inl (k 0, 160, .inl m_tape))]) [] (va_runS (As := [.long o34.toInt64, .long (97 : Int64), .long (122 : Int64)]) (rest := []) ⟨hx, hb, hml, hown, hts⟩ (c_X6_in l G k tL tM sK sV H.size o34.toInt64 (97 : Int64) (122 : Int64) o35 hv) (va_cwS 3 hts gX6_step_X6_in rfl rfl rfl (by decide +kernel) ⟨Nat.le_of_ble_eq_true rfl, Nat.le_of_ble_eq_true rfl⟩) (z_preS (wc := []) [] hK hE hA hP hD hS (by decide) rfl) rfl rfl hl.1 rfl (lv_room (Nat.le_of_ble_eq_true rfl)) dX6_step_99 ⟨Nat.le_refl _, Nat.le_refl _⟩) hA hP hD hS rfl rfl rfl rfl (fun H locs hP hD hS => ?_)
          refine lv_if_eq (tgt := 118) hx hb dX6_step_102 (by decide) (fun c36 => ?_) (fun c36 => ?_)
          · have h := zit c36 h
            exact hJ31 _ (hX30 _ (zs h)) H locs ls hP hD hS (lv_sub hl [0] rfl)
          · have h := zif c36 h
            refine lv_aload_n hx hb dX6_step_105 rfl (lv_at hl 0 rfl) ?_
            refine lv_dup hx hb dX6_step_106 rfl ?_
            refine va_get (D := G) (ci := 6) (v := .int x28) (C := RX6) (T := TX6) (N := 26) hx hb hts iw_X6_step_X6 hown hK hP 0 rfl rfl 8 (by decide) (hts (.fieldLink RX6 69 "SpireLeanModel" "spot" "I") (List.mem_of_getElem? (i := 2) rfl)) (fun _ h9 => h9) rfl dX6_step_107 ?_
            refine lv_iconst (v := 1) hx hb dX6_step_110 (by decide) ?_
            refine lv_iadd hx hb dX6_step_111 ?_
            refine va_put (D := G) (ci := 6) (v := .int (x28 + (1 : Int32))) (ty := .int) (C := RX6) (T := TX6) (N := 26) hx hb hts iw_X6_step_X6 tyX6 tyX6_ok nmX6 hown hK hP hD hS 0 rfl rfl 8 (by decide) (hts (.fieldLink RX6 69 "SpireLeanModel" "spot" "I") (List.mem_of_getElem? (i := 2) rfl)) (fun _ h9 => h9) rfl (tyX6_ok 8 (by decide)) rfl rfl (Nat.le_of_ble_eq_true rfl) dX6_step_112 (fun H locs hP hD hS => ?_)
            have hP : va_P G vwCl [(a_m, .inr (6, [.ref a_m_state, .ref a_m_readPage, .int m_toldOnce, .ref a_m_tape, .int m_taped, .int m_fault, .int m_broken, .int m_brokenAt, .int (x28 + (1 : Int32)), .int e5_, .int m_token, .int (0 : Int32), .ref a_m_cuts, .ref a_m_letters, .int m_silent, .int m_greatest, .int m_moves, .int m_holders, .ref a_m_seen, .int m_seenMany, .ref a_m_pointBy, .ref a_m_isKept, .ref a_m_lanes, .ref a_m_lengths, .ref a_m_sheetCells, .int m_torn])), (a_m_tape, .inl (k 0, 160, .inl m_tape))] H := hP
            have hD : va_D A [(a_m, .inr (6, [.ref a_m_state, .ref a_m_readPage, .int m_toldOnce, .ref a_m_tape, .int m_taped, .int m_fault, .int m_broken, .int m_brokenAt, .int (x28 + (1 : Int32)), .int e5_, .int m_token, .int (0 : Int32), .ref a_m_cuts, .ref a_m_letters, .int m_silent, .int m_greatest, .int m_moves, .int m_holders, .ref a_m_seen, .int m_seenMany, .ref a_m_pointBy, .ref a_m_isKept, .ref a_m_lanes, .ref a_m_lengths, .ref a_m_sheetCells, .int m_torn])), (a_m_tape, .inl (k 0, 160, .inl m_tape))] := hD
            refine lv_goto (tgt := 84) hx hb dX6_step_115 (by decide) ?_
            exact hC29 _ (zs h) H locs ls hP hD hS (lv_sub hl [0] rfl)
      · have h := zit c38 h
        refine lv_aload_n hx hb dX6_step_62 rfl (lv_at hl 1 rfl) ?_
        refine lv_iconst (v := 0) hx hb dX6_step_63 (by decide) ?_
        refine va_put (D := G) (ci := 6) (v := .int (0 : Int32)) (ty := .int) (C := RX6) (T := TX6) (N := 26) hx hb hts iw_X6_step_X6 tyX6 tyX6_ok nmX6 hown hK hP hD hS 0 rfl rfl 10 (by decide) (hts (.fieldLink RX6 66 "SpireLeanModel" "token" "I") (List.mem_of_getElem? (i := 5) rfl)) (fun _ h9 => h9) rfl (tyX6_ok 10 (by decide)) rfl rfl (Nat.le_of_ble_eq_true rfl) dX6_step_64 (fun H locs hP hD hS => ?_)
        have hP : va_P G vwCl [(a_m, .inr (6, [.ref a_m_state, .ref a_m_readPage, .int m_toldOnce, .ref a_m_tape, .int m_taped, .int m_fault, .int m_broken, .int m_brokenAt, .int e5_, .int e5_, .int (0 : Int32), .int (0 : Int32), .ref a_m_cuts, .ref a_m_letters, .int m_silent, .int m_greatest, .int m_moves, .int m_holders, .ref a_m_seen, .int m_seenMany, .ref a_m_pointBy, .ref a_m_isKept, .ref a_m_lanes, .ref a_m_lengths, .ref a_m_sheetCells, .int m_torn])), (a_m_tape, .inl (k 0, 160, .inl m_tape))] H := hP
        have hD : va_D A [(a_m, .inr (6, [.ref a_m_state, .ref a_m_readPage, .int m_toldOnce, .ref a_m_tape, .int m_taped, .int m_fault, .int m_broken, .int m_brokenAt, .int e5_, .int e5_, .int (0 : Int32), .int (0 : Int32), .ref a_m_cuts, .ref a_m_letters, .int m_silent, .int m_greatest, .int m_moves, .int m_holders, .ref a_m_seen, .int m_seenMany, .ref a_m_pointBy, .ref a_m_isKept, .ref a_m_lanes, .ref a_m_lengths, .ref a_m_sheetCells, .int m_torn])), (a_m_tape, .inl (k 0, 160, .inl m_tape))] := hD
        refine lv_goto (tgt := 269) hx hb dX6_step_67 (by decide) ?_
        have hr := (zs h)
        subst hr
        exact hret H locs ls 269 hP hS dX6_step_269
    refine z_lpW (Wh := fun (x1 : Int32) => zW p l e (zR 1 25) s m ([.ref a_m] : List Value).toArray below meth c Q 2 A G [(a_m, .inr (6, [.ref a_m_state, .ref a_m_readPage, .int m_toldOnce, .ref a_m_tape, .int m_taped, .int m_fault, .int m_broken, .int m_brokenAt, .int x1, .int m_here, .int m_token, .int m_value, .ref a_m_cuts, .ref a_m_letters, .int m_silent, .int m_greatest, .int m_moves, .int m_holders, .ref a_m_seen, .int m_seenMany, .ref a_m_pointBy, .ref a_m_isKept, .ref a_m_lanes, .ref a_m_lengths, .ref a_m_sheetCells, .int m_torn])), (a_m_tape, .inl (k 0, 160, .inl m_tape))] [(0, .ref a_m)] 8 []) ?_ 1000 _ hv H locs ls hP hD hS (lv_sub hl [0] rfl)
    clear h
    intro x1 o h hC2 hX3 H locs ls hP hD hS hl
    unfold p_X6_step_b8 at h
    refine lv_aload_n hx hb dX6_step_8 rfl (lv_at hl 0 rfl) ?_
    refine lv_aload_n hx hb dX6_step_9 rfl (lv_at hl 0 rfl) ?_
    refine va_get (D := G) (ci := 6) (v := .int x1) (C := RX6) (T := TX6) (N := 26) hx hb hts iw_X6_step_X6 hown hK hP 0 rfl rfl 8 (by decide) (hts (.fieldLink RX6 69 "SpireLeanModel" "spot" "I") (List.mem_of_getElem? (i := 2) rfl)) (fun _ h9 => h9) rfl dX6_step_10 ?_
    obtain ⟨o7, hv, h⟩ := zb h
    refine z_goi (w2 := [(a_m, .inr (6, [.ref a_m_state, .ref a_m_readPage, .int m_toldOnce, .ref a_m_tape, .int m_taped, .int m_fault, .int m_broken, .int m_brokenAt, .int x1, .int m_here, .int m_token, .int m_value, .ref a_m_cuts, .ref a_m_letters, .int m_silent, .int m_greatest, .int m_moves, .int m_holders, .ref a_m_seen, .int m_seenMany, .ref a_m_pointBy, .ref a_m_isKept, .ref a_m_lanes, .ref a_m_lengths, .ref a_m_sheetCells, .int m_torn])), (a_m_tape, .inl (k 0, 160, .inl m_tape))]) [0, 1] (va_runV (As := [.int x1]) (rest := []) ⟨hx, hb, hml, hown, hts⟩ (c_X6_byteAt l G k tL tM sK sV a_m a_m_state a_m_readPage a_m_tape a_m_cuts a_m_letters a_m_seen a_m_pointBy a_m_isKept a_m_lanes a_m_lengths a_m_sheetCells H.size m_toldOnce m_taped m_fault m_broken m_brokenAt x1 m_here m_token m_value m_silent m_greatest m_moves m_holders m_seenMany m_torn m_tape x1 o7 hv) (cwV 1 hts gX6_step_X6_byteAt rfl rfl rfl (by decide +kernel) ⟨Nat.le_of_ble_eq_true rfl, Nat.le_of_ble_eq_true rfl⟩) (z_preV (wc := [(a_m, .inr (6, [.ref a_m_state, .ref a_m_readPage, .int m_toldOnce, .ref a_m_tape, .int m_taped, .int m_fault, .int m_broken, .int m_brokenAt, .int x1, .int m_here, .int m_token, .int m_value, .ref a_m_cuts, .ref a_m_letters, .int m_silent, .int m_greatest, .int m_moves, .int m_holders, .ref a_m_seen, .int m_seenMany, .ref a_m_pointBy, .ref a_m_isKept, .ref a_m_lanes, .ref a_m_lengths, .ref a_m_sheetCells, .int m_torn])), (a_m_tape, .inl (k 0, 160, .inl m_tape))]) [0, 1] 0 6 hK hE hA hP hD hS (by decide) rfl rfl rfl) rfl rfl hl.1 rfl (lv_room (Nat.le_of_ble_eq_true rfl)) dX6_step_13 ⟨Nat.le_refl _, Nat.le_refl _⟩) hA hP hD hS rfl rfl rfl rfl (fun H locs hP hD hS => ?_)
    refine lv_bipush (v := 32) hx hb dX6_step_16 (by decide) ?_
    refine lv_icmp_ne (tgt := 34) hx hb dX6_step_18 (by decide) (fun c8 => ?_) (fun c8 => ?_)
    · have h := zif c8 h
      exact hJ4 _ (hX3 _ (zs h)) H locs ls hP hD hS (lv_sub hl [0] rfl)
    · have h := zit c8 h
      refine lv_aload_n hx hb dX6_step_21 rfl (lv_at hl 0 rfl) ?_
      refine lv_dup hx hb dX6_step_22 rfl ?_
      refine va_get (D := G) (ci := 6) (v := .int x1) (C := RX6) (T := TX6) (N := 26) hx hb hts iw_X6_step_X6 hown hK hP 0 rfl rfl 8 (by decide) (hts (.fieldLink RX6 69 "SpireLeanModel" "spot" "I") (List.mem_of_getElem? (i := 2) rfl)) (fun _ h9 => h9) rfl dX6_step_23 ?_
      refine lv_iconst (v := 1) hx hb dX6_step_26 (by decide) ?_
      refine lv_iadd hx hb dX6_step_27 ?_
      refine va_put (D := G) (ci := 6) (v := .int (x1 + (1 : Int32))) (ty := .int) (C := RX6) (T := TX6) (N := 26) hx hb hts iw_X6_step_X6 tyX6 tyX6_ok nmX6 hown hK hP hD hS 0 rfl rfl 8 (by decide) (hts (.fieldLink RX6 69 "SpireLeanModel" "spot" "I") (List.mem_of_getElem? (i := 2) rfl)) (fun _ h9 => h9) rfl (tyX6_ok 8 (by decide)) rfl rfl (Nat.le_of_ble_eq_true rfl) dX6_step_28 (fun H locs hP hD hS => ?_)
      have hP : va_P G vwCl [(a_m, .inr (6, [.ref a_m_state, .ref a_m_readPage, .int m_toldOnce, .ref a_m_tape, .int m_taped, .int m_fault, .int m_broken, .int m_brokenAt, .int (x1 + (1 : Int32)), .int m_here, .int m_token, .int m_value, .ref a_m_cuts, .ref a_m_letters, .int m_silent, .int m_greatest, .int m_moves, .int m_holders, .ref a_m_seen, .int m_seenMany, .ref a_m_pointBy, .ref a_m_isKept, .ref a_m_lanes, .ref a_m_lengths, .ref a_m_sheetCells, .int m_torn])), (a_m_tape, .inl (k 0, 160, .inl m_tape))] H := hP
      have hD : va_D A [(a_m, .inr (6, [.ref a_m_state, .ref a_m_readPage, .int m_toldOnce, .ref a_m_tape, .int m_taped, .int m_fault, .int m_broken, .int m_brokenAt, .int (x1 + (1 : Int32)), .int m_here, .int m_token, .int m_value, .ref a_m_cuts, .ref a_m_letters, .int m_silent, .int m_greatest, .int m_moves, .int m_holders, .ref a_m_seen, .int m_seenMany, .ref a_m_pointBy, .ref a_m_isKept, .ref a_m_lanes, .ref a_m_lengths, .ref a_m_sheetCells, .int m_torn])), (a_m_tape, .inl (k 0, 160, .inl m_tape))] := hD
      refine lv_goto (tgt := 8) hx hb dX6_step_31 (by decide) ?_
      exact hC2 _ (zs h) H locs ls hP hD hS (lv_sub hl [0] rfl)
  · have h := zif c39 h
    have hr := (zs h)
    subst hr
    exact hret H locs ls 7 hP hS dX6_step_7
theorem iw_X6_number_X6 : ∀ w ∈ wsX60, w ∈ wsX6_number := fun _ h => List.mem_cons_of_mem _ (List.mem_append_right _ h)
set_option maxHeartbeats 4000000 in
set_option maxRecDepth 100000 in
theorem c_X6_number (l : Launch) (G : va_G) (k : Nat → ClassId) (tL tM : Nat) (sK sV : Nat → Nat) (a_m : Nat) (a_m_state : Nat) (a_m_readPage : Nat) (a_m_tape : Nat) (a_m_cuts : Nat) (a_m_letters : Nat) (a_m_seen : Nat) (a_m_pointBy : Nat) (a_m_isKept : Nat) (a_m_lanes : Nat) (a_m_lengths : Nat) (a_m_sheetCells : Nat) (sz : Nat) (m_toldOnce : Int32) (m_taped : Int32) (m_fault : Int32) (m_broken : Int32) (m_brokenAt : Int32) (m_spot : Int32) (m_here : Int32) (m_token : Int32) (m_value : Int32) (m_silent : Int32) (m_greatest : Int32) (m_moves : Int32) (m_holders : Int32) (m_seenMany : Int32) (m_torn : Int32) (m_tape : Nat → Int32) (u1 : Int32) (u2 : Int32) (out : Int32 × Int32 × Int32 × Int32 × Int32 × Int32 × Int32) (h : p_X6_number u1 u2 m_taped m_broken m_brokenAt m_spot m_here m_token m_value m_tape = some out) : zMi l yX6_number wsX6_number 2 46 G k tL tM sK sV [.ref a_m, .int u1, .int u2] [(a_m, .inr (6, [.ref a_m_state, .ref a_m_readPage, .int m_toldOnce, .ref a_m_tape, .int m_taped, .int m_fault, .int m_broken, .int m_brokenAt, .int m_spot, .int m_here, .int m_token, .int m_value, .ref a_m_cuts, .ref a_m_letters, .int m_silent, .int m_greatest, .int m_moves, .int m_holders, .ref a_m_seen, .int m_seenMany, .ref a_m_pointBy, .ref a_m_isKept, .ref a_m_lanes, .ref a_m_lengths, .ref a_m_sheetCells, .int m_torn])), (a_m_tape, .inl (k 0, 160, .inl m_tape))] [(a_m, .inr (6, [.ref a_m_state, .ref a_m_readPage, .int m_toldOnce, .ref a_m_tape, .int m_taped, .int m_fault, .int out.2.1, .int out.2.2.1, .int out.2.2.2.1, .int out.2.2.2.2.1, .int out.2.2.2.2.2.1, .int out.2.2.2.2.2.2, .ref a_m_cuts, .ref a_m_letters, .int m_silent, .int m_greatest, .int m_moves, .int m_holders, .ref a_m_seen, .int m_seenMany, .ref a_m_pointBy, .ref a_m_isKept, .ref a_m_lanes, .ref a_m_lengths, .ref a_m_sheetCells, .int m_torn])), (a_m_tape, .inl (k 0, 160, .inl m_tape))] out.1 sz := by
  refine z_meti (cc := cX6_number) (maxL := 4) (by decide) rfl (Nat.le_of_ble_eq_true rfl) ?_
  intro p e s m below meth c A Q H locs ls hx hb hml hts hown hA hK hE hret hP hD hS hl
  have hown : s.vm.findClass RX6 = some m.cls := hown
  have hl : lv_has ls 4 [(0, .ref a_m), (1, .int u1), (2, .int u2)] := hl
  unfold p_X6_number at h
  refine lv_aload_n hx hb dX6_number_0 rfl (lv_at hl 0 rfl) ?_
  refine va_get (D := G) (ci := 6) (v := .int m_broken) (C := RX6) (T := TX6) (N := 26) hx hb hts iw_X6_number_X6 hown hK hP 0 rfl rfl 6 (by decide) (hts (.fieldLink RX6 57 "SpireLeanModel" "broken" "I") (List.mem_of_getElem? (i := 1) rfl)) (fun _ h9 => h9) rfl dX6_number_1 ?_
  obtain ⟨e1, hv, h⟩ := zb h
  have hJ2 : ∀ (e1_ : Int32 × Int32), e1_ = e1 → zW p l e (zR 2 46) s m ([.ref a_m, .int u1, .int u2] : List Value).toArray below meth c Q 4 A G [(a_m, .inr (6, [.ref a_m_state, .ref a_m_readPage, .int m_toldOnce, .ref a_m_tape, .int m_taped, .int m_fault, .int e1_.1, .int e1_.2, .int m_spot, .int m_here, .int m_token, .int m_value, .ref a_m_cuts, .ref a_m_letters, .int m_silent, .int m_greatest, .int m_moves, .int m_holders, .ref a_m_seen, .int m_seenMany, .ref a_m_pointBy, .ref a_m_isKept, .ref a_m_lanes, .ref a_m_lengths, .ref a_m_sheetCells, .int m_torn])), (a_m_tape, .inl (k 0, 160, .inl m_tape))] [(0, .ref a_m), (1, .int u1), (2, .int u2)] 20 [] := by
    intro e1_ hz
    subst hz
    intro H locs ls hP hD hS hl
    refine lv_aload_n hx hb dX6_number_20 rfl (lv_at hl 0 rfl) ?_
    refine va_get (D := G) (ci := 6) (v := .int e1_.1) (C := RX6) (T := TX6) (N := 26) hx hb hts iw_X6_number_X6 hown hK hP 0 rfl rfl 6 (by decide) (hts (.fieldLink RX6 57 "SpireLeanModel" "broken" "I") (List.mem_of_getElem? (i := 1) rfl)) (fun _ h9 => h9) rfl dX6_number_21 ?_
    obtain ⟨e7, hv, h⟩ := zb h
    have hJ8 : ∀ (e7_ : Int32 × Int32), e7_ = e7 → zW p l e (zR 2 46) s m ([.ref a_m, .int u1, .int u2] : List Value).toArray below meth c Q 4 A G [(a_m, .inr (6, [.ref a_m_state, .ref a_m_readPage, .int m_toldOnce, .ref a_m_tape, .int m_taped, .int m_fault, .int e7_.1, .int e7_.2, .int m_spot, .int m_here, .int m_token, .int m_value, .ref a_m_cuts, .ref a_m_letters, .int m_silent, .int m_greatest, .int m_moves, .int m_holders, .ref a_m_seen, .int m_seenMany, .ref a_m_pointBy, .ref a_m_isKept, .ref a_m_lanes, .ref a_m_lengths, .ref a_m_sheetCells, .int m_torn])), (a_m_tape, .inl (k 0, 160, .inl m_tape))] [(0, .ref a_m), (1, .int u1)] 47 [] := by
      intro e7_ hz
      subst hz
      intro H locs ls hP hD hS hl
      refine lv_aload_n hx hb dX6_number_47 rfl (lv_at hl 0 rfl) ?_
      refine va_get (D := G) (ci := 6) (v := .int e7_.1) (C := RX6) (T := TX6) (N := 26) hx hb hts iw_X6_number_X6 hown hK hP 0 rfl rfl 6 (by decide) (hts (.fieldLink RX6 57 "SpireLeanModel" "broken" "I") (List.mem_of_getElem? (i := 1) rfl)) (fun _ h9 => h9) rfl dX6_number_48 ?_
      have hJ14 : ∀ (y15 : Int32), y15 = (if e7_.1 = 0 then m_value else u1) → zW p l e (zR 2 46) s m ([.ref a_m, .int u1, .int u2] : List Value).toArray below meth c Q 4 A G [(a_m, .inr (6, [.ref a_m_state, .ref a_m_readPage, .int m_toldOnce, .ref a_m_tape, .int m_taped, .int m_fault, .int e7_.1, .int e7_.2, .int m_spot, .int m_here, .int m_token, .int m_value, .ref a_m_cuts, .ref a_m_letters, .int m_silent, .int m_greatest, .int m_moves, .int m_holders, .ref a_m_seen, .int m_seenMany, .ref a_m_pointBy, .ref a_m_isKept, .ref a_m_lanes, .ref a_m_lengths, .ref a_m_sheetCells, .int m_torn])), (a_m_tape, .inl (k 0, 160, .inl m_tape))] [(0, .ref a_m)] 62 [.int y15] := by
        intro y15 q16
        subst q16
        intro H locs ls hP hD hS hl
        refine lv_istore_n (lv' := [(3, .int (if e7_.1 = 0 then m_value else u1)), (0, .ref a_m)]) hx hb dX6_number_62 rfl hl (by decide) rfl (fun ls hl => ?_)
        refine lv_aload_n hx hb dX6_number_63 rfl (lv_at hl 1 rfl) ?_
        obtain ⟨o18, hv, h⟩ := zb h
        refine z_gov (w2 := [(a_m, .inr (6, [.ref a_m_state, .ref a_m_readPage, .int m_toldOnce, .ref a_m_tape, .int m_taped, .int m_fault, .int o18.1, .int o18.2.1, .int o18.2.2.1, .int o18.2.2.2.1, .int o18.2.2.2.2.1, .int o18.2.2.2.2.2, .ref a_m_cuts, .ref a_m_letters, .int m_silent, .int m_greatest, .int m_moves, .int m_holders, .ref a_m_seen, .int m_seenMany, .ref a_m_pointBy, .ref a_m_isKept, .ref a_m_lanes, .ref a_m_lengths, .ref a_m_sheetCells, .int m_torn])), (a_m_tape, .inl (k 0, 160, .inl m_tape))]) [0, 1] (va_runV (As := []) (rest := []) ⟨hx, hb, hml, hown, hts⟩ (c_X6_step l G k tL tM sK sV a_m a_m_state a_m_readPage a_m_tape a_m_cuts a_m_letters a_m_seen a_m_pointBy a_m_isKept a_m_lanes a_m_lengths a_m_sheetCells H.size m_toldOnce m_taped m_fault e7_.1 e7_.2 m_spot m_here m_token m_value m_silent m_greatest m_moves m_holders m_seenMany m_torn m_tape o18 hv) (cwV 0 hts gX6_number_X6_step rfl rfl rfl (by decide +kernel) ⟨Nat.le_of_ble_eq_true rfl, Nat.le_of_ble_eq_true rfl⟩) (z_preV (wc := [(a_m, .inr (6, [.ref a_m_state, .ref a_m_readPage, .int m_toldOnce, .ref a_m_tape, .int m_taped, .int m_fault, .int e7_.1, .int e7_.2, .int m_spot, .int m_here, .int m_token, .int m_value, .ref a_m_cuts, .ref a_m_letters, .int m_silent, .int m_greatest, .int m_moves, .int m_holders, .ref a_m_seen, .int m_seenMany, .ref a_m_pointBy, .ref a_m_isKept, .ref a_m_lanes, .ref a_m_lengths, .ref a_m_sheetCells, .int m_torn])), (a_m_tape, .inl (k 0, 160, .inl m_tape))]) [0, 1] 0 6 hK hE hA hP hD hS (by decide) rfl rfl rfl) rfl rfl hl.1 rfl (lv_room (Nat.le_of_ble_eq_true rfl)) dX6_number_64 ⟨Nat.le_refl _, Nat.le_refl _⟩) hA hP hD hS rfl rfl rfl rfl (fun H locs hP hD hS => ?_)
        refine lv_iload_n hx hb dX6_number_67 rfl (lv_at hl 0 rfl) ?_
        have hr := (zs h)
        subst hr
        exact hret H locs ls 68 hP hS dX6_number_68
      refine lv_if_ne (tgt := 61) hx hb dX6_number_51 (by decide) (fun c17 => ?_) (fun c17 => ?_)
      · refine lv_iload_n hx hb dX6_number_61 rfl (lv_at hl 1 rfl) ?_
        exact hJ14 _ (if_neg c17).symm H locs ls hP hD hS (lv_sub hl [0] rfl)
      · refine lv_aload_n hx hb dX6_number_54 rfl (lv_at hl 0 rfl) ?_
        refine va_get (D := G) (ci := 6) (v := .int m_value) (C := RX6) (T := TX6) (N := 26) hx hb hts iw_X6_number_X6 hown hK hP 0 rfl rfl 11 (by decide) (hts (.fieldLink RX6 76 "SpireLeanModel" "value" "I") (List.mem_of_getElem? (i := 3) rfl)) (fun _ h9 => h9) rfl dX6_number_55 ?_
        refine lv_goto (tgt := 62) hx hb dX6_number_58 (by decide) ?_
        exact hJ14 _ (if_pos c17).symm H locs ls hP hD hS (lv_sub hl [0] rfl)
    clear h
    have h := hv
    refine lv_if_ne (tgt := 47) hx hb dX6_number_24 (by decide) (fun c13 => ?_) (fun c13 => ?_)
    · have h := zif c13 h
      exact hJ8 _ (zs h) H locs ls hP hD hS (lv_sub hl [0, 1] rfl)
    · have h := zit c13 h
      refine lv_aload_n hx hb dX6_number_27 rfl (lv_at hl 0 rfl) ?_
      refine va_get (D := G) (ci := 6) (v := .int m_value) (C := RX6) (T := TX6) (N := 26) hx hb hts iw_X6_number_X6 hown hK hP 0 rfl rfl 11 (by decide) (hts (.fieldLink RX6 76 "SpireLeanModel" "value" "I") (List.mem_of_getElem? (i := 3) rfl)) (fun _ h9 => h9) rfl dX6_number_28 ?_
      refine lv_i2l (v := m_value.toInt64) hx hb dX6_number_31 rfl ?_
      refine lv_iload_n hx hb dX6_number_32 rfl (lv_at hl 1 rfl) ?_
      refine lv_i2l (v := u1.toInt64) hx hb dX6_number_33 rfl ?_
      refine lv_iload_n hx hb dX6_number_34 rfl (lv_at hl 2 rfl) ?_
      refine lv_i2l (v := u2.toInt64) hx hb dX6_number_35 rfl ?_
      obtain ⟨o10, hv, h⟩ := zb h
      refine z_goi (w2 := [(a_m, .inr (6, [.ref a_m_state, .ref a_m_readPage, .int m_toldOnce, .ref a_m_tape, .int m_taped, .int m_fault, .int e1_.1, .int e1_.2, .int m_spot, .int m_here, .int m_token, .int m_value, .ref a_m_cuts, .ref a_m_letters, .int m_silent, .int m_greatest, .int m_moves, .int m_holders, .ref a_m_seen, .int m_seenMany, .ref a_m_pointBy, .ref a_m_isKept, .ref a_m_lanes, .ref a_m_lengths, .ref a_m_sheetCells, .int m_torn])), (a_m_tape, .inl (k 0, 160, .inl m_tape))]) [] (va_runS (As := [.long m_value.toInt64, .long u1.toInt64, .long u2.toInt64]) (rest := []) ⟨hx, hb, hml, hown, hts⟩ (c_X6_in l G k tL tM sK sV H.size m_value.toInt64 u1.toInt64 u2.toInt64 o10 hv) (va_cwS 3 hts gX6_number_X6_in rfl rfl rfl (by decide +kernel) ⟨Nat.le_of_ble_eq_true rfl, Nat.le_of_ble_eq_true rfl⟩) (z_preS (wc := []) [] hK hE hA hP hD hS (by decide) rfl) rfl rfl hl.1 rfl (lv_room (Nat.le_of_ble_eq_true rfl)) dX6_number_36 ⟨Nat.le_refl _, Nat.le_refl _⟩) hA hP hD hS rfl rfl rfl rfl (fun H locs hP hD hS => ?_)
      refine lv_if_ne (tgt := 47) hx hb dX6_number_39 (by decide) (fun c12 => ?_) (fun c12 => ?_)
      · have h := zif c12 h
        exact hJ8 _ (zs h) H locs ls hP hD hS (lv_sub hl [0, 1] rfl)
      · have h := zit c12 h
        refine lv_aload_n hx hb dX6_number_42 rfl (lv_at hl 0 rfl) ?_
        refine lv_iconst (v := 3) hx hb dX6_number_43 (by decide) ?_
        obtain ⟨o11, hv, h⟩ := zb h
        refine z_gov (w2 := [(a_m, .inr (6, [.ref a_m_state, .ref a_m_readPage, .int m_toldOnce, .ref a_m_tape, .int m_taped, .int m_fault, .int o11.1, .int o11.2, .int m_spot, .int m_here, .int m_token, .int m_value, .ref a_m_cuts, .ref a_m_letters, .int m_silent, .int m_greatest, .int m_moves, .int m_holders, .ref a_m_seen, .int m_seenMany, .ref a_m_pointBy, .ref a_m_isKept, .ref a_m_lanes, .ref a_m_lengths, .ref a_m_sheetCells, .int m_torn])), (a_m_tape, .inl (k 0, 160, .inl m_tape))]) [0] (va_runV (As := [.int (3 : Int32)]) (rest := []) ⟨hx, hb, hml, hown, hts⟩ (c_X6_fails l G k tL tM sK sV a_m a_m_state a_m_readPage a_m_tape a_m_cuts a_m_letters a_m_seen a_m_pointBy a_m_isKept a_m_lanes a_m_lengths a_m_sheetCells H.size m_toldOnce m_taped m_fault e1_.1 e1_.2 m_spot m_here m_token m_value m_silent m_greatest m_moves m_holders m_seenMany m_torn (3 : Int32) o11 hv) (cwV 1 hts gX6_number_X6_fails rfl rfl rfl (by decide +kernel) ⟨Nat.le_of_ble_eq_true rfl, Nat.le_of_ble_eq_true rfl⟩) (z_preV (wc := [(a_m, .inr (6, [.ref a_m_state, .ref a_m_readPage, .int m_toldOnce, .ref a_m_tape, .int m_taped, .int m_fault, .int e1_.1, .int e1_.2, .int m_spot, .int m_here, .int m_token, .int m_value, .ref a_m_cuts, .ref a_m_letters, .int m_silent, .int m_greatest, .int m_moves, .int m_holders, .ref a_m_seen, .int m_seenMany, .ref a_m_pointBy, .ref a_m_isKept, .ref a_m_lanes, .ref a_m_lengths, .ref a_m_sheetCells, .int m_torn]))]) [0] 0 6 hK hE hA hP hD hS (by decide) rfl rfl rfl) rfl rfl hl.1 rfl (lv_room (Nat.le_of_ble_eq_true rfl)) dX6_number_44 ⟨Nat.le_refl _, Nat.le_refl _⟩) hA hP hD hS rfl rfl rfl rfl (fun H locs hP hD hS => ?_)
        exact hJ8 _ (zs h) H locs ls hP hD hS (lv_sub hl [0, 1] rfl)
  clear h
  have h := hv
  refine lv_if_ne (tgt := 20) hx hb dX6_number_4 (by decide) (fun c6 => ?_) (fun c6 => ?_)
  · have h := zif c6 h
    exact hJ2 _ (zs h) H locs ls hP hD hS (lv_sub hl [0, 1, 2] rfl)
  · have h := zit c6 h
    refine lv_aload_n hx hb dX6_number_7 rfl (lv_at hl 0 rfl) ?_
    refine va_get (D := G) (ci := 6) (v := .int m_token) (C := RX6) (T := TX6) (N := 26) hx hb hts iw_X6_number_X6 hown hK hP 0 rfl rfl 10 (by decide) (hts (.fieldLink RX6 66 "SpireLeanModel" "token" "I") (List.mem_of_getElem? (i := 2) rfl)) (fun _ h9 => h9) rfl dX6_number_8 ?_
    refine lv_iconst (v := 2) hx hb dX6_number_11 (by decide) ?_
    refine lv_icmp_eq (tgt := 20) hx hb dX6_number_12 (by decide) (fun c5 => ?_) (fun c5 => ?_)
    · have h := zit c5 h
      exact hJ2 _ (zs h) H locs ls hP hD hS (lv_sub hl [0, 1, 2] rfl)
    · have h := zif c5 h
      refine lv_aload_n hx hb dX6_number_15 rfl (lv_at hl 0 rfl) ?_
      refine lv_iconst (v := 2) hx hb dX6_number_16 (by decide) ?_
      obtain ⟨o4, hv, h⟩ := zb h
      refine z_gov (w2 := [(a_m, .inr (6, [.ref a_m_state, .ref a_m_readPage, .int m_toldOnce, .ref a_m_tape, .int m_taped, .int m_fault, .int o4.1, .int o4.2, .int m_spot, .int m_here, .int m_token, .int m_value, .ref a_m_cuts, .ref a_m_letters, .int m_silent, .int m_greatest, .int m_moves, .int m_holders, .ref a_m_seen, .int m_seenMany, .ref a_m_pointBy, .ref a_m_isKept, .ref a_m_lanes, .ref a_m_lengths, .ref a_m_sheetCells, .int m_torn])), (a_m_tape, .inl (k 0, 160, .inl m_tape))]) [0] (va_runV (As := [.int (2 : Int32)]) (rest := []) ⟨hx, hb, hml, hown, hts⟩ (c_X6_fails l G k tL tM sK sV a_m a_m_state a_m_readPage a_m_tape a_m_cuts a_m_letters a_m_seen a_m_pointBy a_m_isKept a_m_lanes a_m_lengths a_m_sheetCells H.size m_toldOnce m_taped m_fault m_broken m_brokenAt m_spot m_here m_token m_value m_silent m_greatest m_moves m_holders m_seenMany m_torn (2 : Int32) o4 hv) (cwV 1 hts gX6_number_X6_fails rfl rfl rfl (by decide +kernel) ⟨Nat.le_of_ble_eq_true rfl, Nat.le_of_ble_eq_true rfl⟩) (z_preV (wc := [(a_m, .inr (6, [.ref a_m_state, .ref a_m_readPage, .int m_toldOnce, .ref a_m_tape, .int m_taped, .int m_fault, .int m_broken, .int m_brokenAt, .int m_spot, .int m_here, .int m_token, .int m_value, .ref a_m_cuts, .ref a_m_letters, .int m_silent, .int m_greatest, .int m_moves, .int m_holders, .ref a_m_seen, .int m_seenMany, .ref a_m_pointBy, .ref a_m_isKept, .ref a_m_lanes, .ref a_m_lengths, .ref a_m_sheetCells, .int m_torn]))]) [0] 0 6 hK hE hA hP hD hS (by decide) rfl rfl rfl) rfl rfl hl.1 rfl (lv_room (Nat.le_of_ble_eq_true rfl)) dX6_number_17 ⟨Nat.le_refl _, Nat.le_refl _⟩) hA hP hD hS rfl rfl rfl rfl (fun H locs hP hD hS => ?_)
      exact hJ2 _ (zs h) H locs ls hP hD hS (lv_sub hl [0, 1, 2] rfl)
theorem iw_X6_readMore_X6 : ∀ w ∈ wsX60, w ∈ wsX6_readMore := fun _ h => List.mem_cons_of_mem _ (List.mem_append_right _ h)
set_option maxHeartbeats 4000000 in
set_option maxRecDepth 100000 in
theorem c_X6_readMore (l : Launch) (G : va_G) (k : Nat → ClassId) (tL tM : Nat) (sK sV : Nat → Nat) (a_m : Nat) (a_m_state : Nat) (a_m_readPage : Nat) (a_m_tape : Nat) (a_m_cuts : Nat) (a_m_letters : Nat) (a_m_seen : Nat) (a_m_pointBy : Nat) (a_m_isKept : Nat) (a_m_lanes : Nat) (a_m_lengths : Nat) (a_m_sheetCells : Nat) (sz : Nat) (m_toldOnce : Int32) (m_taped : Int32) (m_fault : Int32) (m_broken : Int32) (m_brokenAt : Int32) (m_spot : Int32) (m_here : Int32) (m_token : Int32) (m_value : Int32) (m_silent : Int32) (m_greatest : Int32) (m_moves : Int32) (m_holders : Int32) (m_seenMany : Int32) (m_torn : Int32) (m_readPage : Nat → Int32) (m_tape : Nat → Int32) (u1 : Int32) (out : Int32 × Int32 × Int32 × Int32 × Int32 × Int32 × (Nat → Int32)) (h : p_X6_readMore u1 m_taped m_broken m_brokenAt m_spot m_here m_token m_value m_readPage m_tape = some out) : zMv l yX6_readMore wsX6_readMore 3 69 G k tL tM sK sV [.ref a_m, .int u1] [(a_m, .inr (6, [.ref a_m_state, .ref a_m_readPage, .int m_toldOnce, .ref a_m_tape, .int m_taped, .int m_fault, .int m_broken, .int m_brokenAt, .int m_spot, .int m_here, .int m_token, .int m_value, .ref a_m_cuts, .ref a_m_letters, .int m_silent, .int m_greatest, .int m_moves, .int m_holders, .ref a_m_seen, .int m_seenMany, .ref a_m_pointBy, .ref a_m_isKept, .ref a_m_lanes, .ref a_m_lengths, .ref a_m_sheetCells, .int m_torn])), (a_m_readPage, .inl (k 0, 26, .inl m_readPage)), (a_m_tape, .inl (k 0, 160, .inl m_tape))] [(a_m, .inr (6, [.ref a_m_state, .ref a_m_readPage, .int m_toldOnce, .ref a_m_tape, .int m_taped, .int m_fault, .int out.1, .int out.2.1, .int out.2.2.1, .int out.2.2.2.1, .int out.2.2.2.2.1, .int out.2.2.2.2.2.1, .ref a_m_cuts, .ref a_m_letters, .int m_silent, .int m_greatest, .int m_moves, .int m_holders, .ref a_m_seen, .int m_seenMany, .ref a_m_pointBy, .ref a_m_isKept, .ref a_m_lanes, .ref a_m_lengths, .ref a_m_sheetCells, .int m_torn])), (a_m_readPage, .inl (k 0, 26, .inl out.2.2.2.2.2.2)), (a_m_tape, .inl (k 0, 160, .inl m_tape))] sz := by
  refine z_metv (cc := cX6_readMore) (maxL := 3) (by decide) rfl (Nat.le_of_ble_eq_true rfl) ?_
  intro p e s m below meth c A Q H locs ls hx hb hml hts hown hA hK hE hret hP hD hS hl
  have hown : s.vm.findClass RX6 = some m.cls := hown
  have hl : lv_has ls 3 [(0, .ref a_m), (1, .int u1)] := hl
  unfold p_X6_readMore at h
  refine lv_iload_n hx hb dX6_readMore_0 rfl (lv_at hl 1 rfl) ?_
  refine lv_iconst (v := 3) hx hb dX6_readMore_1 (by decide) ?_
  refine lv_icmp_gt (tgt := 81) hx hb dX6_readMore_2 (by decide) (fun c21 => ?_) (fun c21 => ?_)
  · have h := zit c21 h
    refine lv_iload_n hx hb dX6_readMore_81 rfl (lv_at hl 1 rfl) ?_
    refine lv_iconst (v := 4) hx hb dX6_readMore_82 (by decide) ?_
    refine lv_icmp_ne (tgt := 120) hx hb dX6_readMore_83 (by decide) (fun c10 => ?_) (fun c10 => ?_)
    · have h := zif c10 h
      refine lv_iload_n hx hb dX6_readMore_120 rfl (lv_at hl 1 rfl) ?_
      refine lv_iconst (v := 5) hx hb dX6_readMore_121 (by decide) ?_
      refine lv_icmp_ne (tgt := 144) hx hb dX6_readMore_122 (by decide) (fun c5 => ?_) (fun c5 => ?_)
      · have h := zif c5 h
        refine lv_aload_n hx hb dX6_readMore_144 rfl (lv_at hl 0 rfl) ?_
        refine va_get (D := G) (ci := 6) (v := .ref a_m_readPage) (C := RX6) (T := TX6) (N := 26) hx hb hts iw_X6_readMore_X6 hown hK hP 0 rfl rfl 1 (by decide) (hts (.fieldLink RX6 13 "SpireLeanModel" "readPage" "[I") (List.mem_of_getElem? (i := 1) rfl)) (fun _ h9 => h9) rfl dX6_readMore_145 ?_
        refine lv_bipush (v := 24) hx hb dX6_readMore_148 (by decide) ?_
        refine lv_aload_n hx hb dX6_readMore_150 rfl (lv_at hl 0 rfl) ?_
        refine lv_iconst (v := 0) hx hb dX6_readMore_151 (by decide) ?_
        refine lv_bipush (v := 18) hx hb dX6_readMore_152 (by decide) ?_
        obtain ⟨o1, hv, h⟩ := zb h
        refine z_goi (w2 := [(a_m, .inr (6, [.ref a_m_state, .ref a_m_readPage, .int m_toldOnce, .ref a_m_tape, .int m_taped, .int m_fault, .int o1.2.1, .int o1.2.2.1, .int o1.2.2.2.1, .int o1.2.2.2.2.1, .int o1.2.2.2.2.2.1, .int o1.2.2.2.2.2.2, .ref a_m_cuts, .ref a_m_letters, .int m_silent, .int m_greatest, .int m_moves, .int m_holders, .ref a_m_seen, .int m_seenMany, .ref a_m_pointBy, .ref a_m_isKept, .ref a_m_lanes, .ref a_m_lengths, .ref a_m_sheetCells, .int m_torn])), (a_m_readPage, .inl (k 0, 26, .inl m_readPage)), (a_m_tape, .inl (k 0, 160, .inl m_tape))]) [0, 2] (va_runV (As := [.int (0 : Int32), .int (18 : Int32)]) (rest := [.int (24 : Int32), .ref a_m_readPage]) ⟨hx, hb, hml, hown, hts⟩ (c_X6_number l G k tL tM sK sV a_m a_m_state a_m_readPage a_m_tape a_m_cuts a_m_letters a_m_seen a_m_pointBy a_m_isKept a_m_lanes a_m_lengths a_m_sheetCells H.size m_toldOnce m_taped m_fault m_broken m_brokenAt m_spot m_here m_token m_value m_silent m_greatest m_moves m_holders m_seenMany m_torn m_tape (0 : Int32) (18 : Int32) o1 hv) (cwV 2 hts gX6_readMore_X6_number rfl rfl rfl (by decide +kernel) ⟨Nat.le_of_ble_eq_true rfl, Nat.le_of_ble_eq_true rfl⟩) (z_preV (wc := [(a_m, .inr (6, [.ref a_m_state, .ref a_m_readPage, .int m_toldOnce, .ref a_m_tape, .int m_taped, .int m_fault, .int m_broken, .int m_brokenAt, .int m_spot, .int m_here, .int m_token, .int m_value, .ref a_m_cuts, .ref a_m_letters, .int m_silent, .int m_greatest, .int m_moves, .int m_holders, .ref a_m_seen, .int m_seenMany, .ref a_m_pointBy, .ref a_m_isKept, .ref a_m_lanes, .ref a_m_lengths, .ref a_m_sheetCells, .int m_torn])), (a_m_tape, .inl (k 0, 160, .inl m_tape))]) [0, 2] 0 6 hK hE hA hP hD hS (by decide) rfl rfl rfl) rfl rfl hl.1 rfl (lv_room (Nat.le_of_ble_eq_true rfl)) dX6_readMore_154 ⟨Nat.le_refl _, Nat.le_refl _⟩) hA hP hD hS rfl rfl rfl rfl (fun H locs hP hD hS => ?_)
        refine lv_bipush (v := 9) hx hb dX6_readMore_157 (by decide) ?_
        refine lv_isub hx hb dX6_readMore_159 ?_
        obtain ⟨v2, hv, h⟩ := zb h
        refine z_iast hx hb hK hP hD hS 1 0 rfl rfl hv dX6_readMore_160 (fun H locs hP hD hS => ?_)
        have hP : va_P G vwCl [(a_m, .inr (6, [.ref a_m_state, .ref a_m_readPage, .int m_toldOnce, .ref a_m_tape, .int m_taped, .int m_fault, .int o1.2.1, .int o1.2.2.1, .int o1.2.2.2.1, .int o1.2.2.2.2.1, .int o1.2.2.2.2.2.1, .int o1.2.2.2.2.2.2, .ref a_m_cuts, .ref a_m_letters, .int m_silent, .int m_greatest, .int m_moves, .int m_holders, .ref a_m_seen, .int m_seenMany, .ref a_m_pointBy, .ref a_m_isKept, .ref a_m_lanes, .ref a_m_lengths, .ref a_m_sheetCells, .int m_torn])), (a_m_readPage, .inl (k 0, 26, .inl v2)), (a_m_tape, .inl (k 0, 160, .inl m_tape))] H := hP
        have hD : va_D A [(a_m, .inr (6, [.ref a_m_state, .ref a_m_readPage, .int m_toldOnce, .ref a_m_tape, .int m_taped, .int m_fault, .int o1.2.1, .int o1.2.2.1, .int o1.2.2.2.1, .int o1.2.2.2.2.1, .int o1.2.2.2.2.2.1, .int o1.2.2.2.2.2.2, .ref a_m_cuts, .ref a_m_letters, .int m_silent, .int m_greatest, .int m_moves, .int m_holders, .ref a_m_seen, .int m_seenMany, .ref a_m_pointBy, .ref a_m_isKept, .ref a_m_lanes, .ref a_m_lengths, .ref a_m_sheetCells, .int m_torn])), (a_m_readPage, .inl (k 0, 26, .inl v2)), (a_m_tape, .inl (k 0, 160, .inl m_tape))] := hD
        have hr := (zs h)
        subst hr
        exact hret H locs ls 161 hP hS dX6_readMore_161
      · have h := zit c5 h
        refine lv_aload_n hx hb dX6_readMore_125 rfl (lv_at hl 0 rfl) ?_
        refine va_get (D := G) (ci := 6) (v := .ref a_m_readPage) (C := RX6) (T := TX6) (N := 26) hx hb hts iw_X6_readMore_X6 hown hK hP 0 rfl rfl 1 (by decide) (hts (.fieldLink RX6 13 "SpireLeanModel" "readPage" "[I") (List.mem_of_getElem? (i := 1) rfl)) (fun _ h9 => h9) rfl dX6_readMore_126 ?_
        refine lv_bipush (v := 23) hx hb dX6_readMore_129 (by decide) ?_
        refine lv_aload_n hx hb dX6_readMore_131 rfl (lv_at hl 0 rfl) ?_
        refine lv_iconst (v := 0) hx hb dX6_readMore_132 (by decide) ?_
        refine lv_bipush (v := 20) hx hb dX6_readMore_133 (by decide) ?_
        obtain ⟨o3, hv, h⟩ := zb h
        refine z_goi (w2 := [(a_m, .inr (6, [.ref a_m_state, .ref a_m_readPage, .int m_toldOnce, .ref a_m_tape, .int m_taped, .int m_fault, .int o3.2.1, .int o3.2.2.1, .int o3.2.2.2.1, .int o3.2.2.2.2.1, .int o3.2.2.2.2.2.1, .int o3.2.2.2.2.2.2, .ref a_m_cuts, .ref a_m_letters, .int m_silent, .int m_greatest, .int m_moves, .int m_holders, .ref a_m_seen, .int m_seenMany, .ref a_m_pointBy, .ref a_m_isKept, .ref a_m_lanes, .ref a_m_lengths, .ref a_m_sheetCells, .int m_torn])), (a_m_readPage, .inl (k 0, 26, .inl m_readPage)), (a_m_tape, .inl (k 0, 160, .inl m_tape))]) [0, 2] (va_runV (As := [.int (0 : Int32), .int (20 : Int32)]) (rest := [.int (23 : Int32), .ref a_m_readPage]) ⟨hx, hb, hml, hown, hts⟩ (c_X6_number l G k tL tM sK sV a_m a_m_state a_m_readPage a_m_tape a_m_cuts a_m_letters a_m_seen a_m_pointBy a_m_isKept a_m_lanes a_m_lengths a_m_sheetCells H.size m_toldOnce m_taped m_fault m_broken m_brokenAt m_spot m_here m_token m_value m_silent m_greatest m_moves m_holders m_seenMany m_torn m_tape (0 : Int32) (20 : Int32) o3 hv) (cwV 2 hts gX6_readMore_X6_number rfl rfl rfl (by decide +kernel) ⟨Nat.le_of_ble_eq_true rfl, Nat.le_of_ble_eq_true rfl⟩) (z_preV (wc := [(a_m, .inr (6, [.ref a_m_state, .ref a_m_readPage, .int m_toldOnce, .ref a_m_tape, .int m_taped, .int m_fault, .int m_broken, .int m_brokenAt, .int m_spot, .int m_here, .int m_token, .int m_value, .ref a_m_cuts, .ref a_m_letters, .int m_silent, .int m_greatest, .int m_moves, .int m_holders, .ref a_m_seen, .int m_seenMany, .ref a_m_pointBy, .ref a_m_isKept, .ref a_m_lanes, .ref a_m_lengths, .ref a_m_sheetCells, .int m_torn])), (a_m_tape, .inl (k 0, 160, .inl m_tape))]) [0, 2] 0 6 hK hE hA hP hD hS (by decide) rfl rfl rfl) rfl rfl hl.1 rfl (lv_room (Nat.le_of_ble_eq_true rfl)) dX6_readMore_135 ⟨Nat.le_refl _, Nat.le_refl _⟩) hA hP hD hS rfl rfl rfl rfl (fun H locs hP hD hS => ?_)
        refine lv_iconst (v := 2) hx hb dX6_readMore_138 (by decide) ?_
        refine lv_isub hx hb dX6_readMore_139 ?_
        obtain ⟨v4, hv, h⟩ := zb h
        refine z_iast hx hb hK hP hD hS 1 0 rfl rfl hv dX6_readMore_140 (fun H locs hP hD hS => ?_)
        have hP : va_P G vwCl [(a_m, .inr (6, [.ref a_m_state, .ref a_m_readPage, .int m_toldOnce, .ref a_m_tape, .int m_taped, .int m_fault, .int o3.2.1, .int o3.2.2.1, .int o3.2.2.2.1, .int o3.2.2.2.2.1, .int o3.2.2.2.2.2.1, .int o3.2.2.2.2.2.2, .ref a_m_cuts, .ref a_m_letters, .int m_silent, .int m_greatest, .int m_moves, .int m_holders, .ref a_m_seen, .int m_seenMany, .ref a_m_pointBy, .ref a_m_isKept, .ref a_m_lanes, .ref a_m_lengths, .ref a_m_sheetCells, .int m_torn])), (a_m_readPage, .inl (k 0, 26, .inl v4)), (a_m_tape, .inl (k 0, 160, .inl m_tape))] H := hP
        have hD : va_D A [(a_m, .inr (6, [.ref a_m_state, .ref a_m_readPage, .int m_toldOnce, .ref a_m_tape, .int m_taped, .int m_fault, .int o3.2.1, .int o3.2.2.1, .int o3.2.2.2.1, .int o3.2.2.2.2.1, .int o3.2.2.2.2.2.1, .int o3.2.2.2.2.2.2, .ref a_m_cuts, .ref a_m_letters, .int m_silent, .int m_greatest, .int m_moves, .int m_holders, .ref a_m_seen, .int m_seenMany, .ref a_m_pointBy, .ref a_m_isKept, .ref a_m_lanes, .ref a_m_lengths, .ref a_m_sheetCells, .int m_torn])), (a_m_readPage, .inl (k 0, 26, .inl v4)), (a_m_tape, .inl (k 0, 160, .inl m_tape))] := hD
        refine lv_goto (tgt := 161) hx hb dX6_readMore_141 (by decide) ?_
        have hr := (zs h)
        subst hr
        exact hret H locs ls 161 hP hS dX6_readMore_161
    · have h := zit c10 h
      refine lv_aload_n hx hb dX6_readMore_86 rfl (lv_at hl 0 rfl) ?_
      refine va_get (D := G) (ci := 6) (v := .ref a_m_readPage) (C := RX6) (T := TX6) (N := 26) hx hb hts iw_X6_readMore_X6 hown hK hP 0 rfl rfl 1 (by decide) (hts (.fieldLink RX6 13 "SpireLeanModel" "readPage" "[I") (List.mem_of_getElem? (i := 1) rfl)) (fun _ h9 => h9) rfl dX6_readMore_87 ?_
      refine lv_bipush (v := 21) hx hb dX6_readMore_90 (by decide) ?_
      refine lv_aload_n hx hb dX6_readMore_92 rfl (lv_at hl 0 rfl) ?_
      refine lv_iconst (v := 0) hx hb dX6_readMore_93 (by decide) ?_
      refine lv_bipush (v := 99) hx hb dX6_readMore_94 (by decide) ?_
      obtain ⟨o6, hv, h⟩ := zb h
      refine z_goi (w2 := [(a_m, .inr (6, [.ref a_m_state, .ref a_m_readPage, .int m_toldOnce, .ref a_m_tape, .int m_taped, .int m_fault, .int o6.2.1, .int o6.2.2.1, .int o6.2.2.2.1, .int o6.2.2.2.2.1, .int o6.2.2.2.2.2.1, .int o6.2.2.2.2.2.2, .ref a_m_cuts, .ref a_m_letters, .int m_silent, .int m_greatest, .int m_moves, .int m_holders, .ref a_m_seen, .int m_seenMany, .ref a_m_pointBy, .ref a_m_isKept, .ref a_m_lanes, .ref a_m_lengths, .ref a_m_sheetCells, .int m_torn])), (a_m_readPage, .inl (k 0, 26, .inl m_readPage)), (a_m_tape, .inl (k 0, 160, .inl m_tape))]) [0, 2] (va_runV (As := [.int (0 : Int32), .int (99 : Int32)]) (rest := [.int (21 : Int32), .ref a_m_readPage]) ⟨hx, hb, hml, hown, hts⟩ (c_X6_number l G k tL tM sK sV a_m a_m_state a_m_readPage a_m_tape a_m_cuts a_m_letters a_m_seen a_m_pointBy a_m_isKept a_m_lanes a_m_lengths a_m_sheetCells H.size m_toldOnce m_taped m_fault m_broken m_brokenAt m_spot m_here m_token m_value m_silent m_greatest m_moves m_holders m_seenMany m_torn m_tape (0 : Int32) (99 : Int32) o6 hv) (cwV 2 hts gX6_readMore_X6_number rfl rfl rfl (by decide +kernel) ⟨Nat.le_of_ble_eq_true rfl, Nat.le_of_ble_eq_true rfl⟩) (z_preV (wc := [(a_m, .inr (6, [.ref a_m_state, .ref a_m_readPage, .int m_toldOnce, .ref a_m_tape, .int m_taped, .int m_fault, .int m_broken, .int m_brokenAt, .int m_spot, .int m_here, .int m_token, .int m_value, .ref a_m_cuts, .ref a_m_letters, .int m_silent, .int m_greatest, .int m_moves, .int m_holders, .ref a_m_seen, .int m_seenMany, .ref a_m_pointBy, .ref a_m_isKept, .ref a_m_lanes, .ref a_m_lengths, .ref a_m_sheetCells, .int m_torn])), (a_m_tape, .inl (k 0, 160, .inl m_tape))]) [0, 2] 0 6 hK hE hA hP hD hS (by decide) rfl rfl rfl) rfl rfl hl.1 rfl (lv_room (Nat.le_of_ble_eq_true rfl)) dX6_readMore_96 ⟨Nat.le_refl _, Nat.le_refl _⟩) hA hP hD hS rfl rfl rfl rfl (fun H locs hP hD hS => ?_)
      refine lv_bipush (v := 44) hx hb dX6_readMore_99 (by decide) ?_
      refine lv_isub hx hb dX6_readMore_101 ?_
      obtain ⟨v7, hv, h⟩ := zb h
      refine z_iast hx hb hK hP hD hS 1 0 rfl rfl hv dX6_readMore_102 (fun H locs hP hD hS => ?_)
      have hP : va_P G vwCl [(a_m, .inr (6, [.ref a_m_state, .ref a_m_readPage, .int m_toldOnce, .ref a_m_tape, .int m_taped, .int m_fault, .int o6.2.1, .int o6.2.2.1, .int o6.2.2.2.1, .int o6.2.2.2.2.1, .int o6.2.2.2.2.2.1, .int o6.2.2.2.2.2.2, .ref a_m_cuts, .ref a_m_letters, .int m_silent, .int m_greatest, .int m_moves, .int m_holders, .ref a_m_seen, .int m_seenMany, .ref a_m_pointBy, .ref a_m_isKept, .ref a_m_lanes, .ref a_m_lengths, .ref a_m_sheetCells, .int m_torn])), (a_m_readPage, .inl (k 0, 26, .inl v7)), (a_m_tape, .inl (k 0, 160, .inl m_tape))] H := hP
      have hD : va_D A [(a_m, .inr (6, [.ref a_m_state, .ref a_m_readPage, .int m_toldOnce, .ref a_m_tape, .int m_taped, .int m_fault, .int o6.2.1, .int o6.2.2.1, .int o6.2.2.2.1, .int o6.2.2.2.2.1, .int o6.2.2.2.2.2.1, .int o6.2.2.2.2.2.2, .ref a_m_cuts, .ref a_m_letters, .int m_silent, .int m_greatest, .int m_moves, .int m_holders, .ref a_m_seen, .int m_seenMany, .ref a_m_pointBy, .ref a_m_isKept, .ref a_m_lanes, .ref a_m_lengths, .ref a_m_sheetCells, .int m_torn])), (a_m_readPage, .inl (k 0, 26, .inl v7)), (a_m_tape, .inl (k 0, 160, .inl m_tape))] := hD
      refine lv_aload_n hx hb dX6_readMore_103 rfl (lv_at hl 0 rfl) ?_
      refine va_get (D := G) (ci := 6) (v := .ref a_m_readPage) (C := RX6) (T := TX6) (N := 26) hx hb hts iw_X6_readMore_X6 hown hK hP 0 rfl rfl 1 (by decide) (hts (.fieldLink RX6 13 "SpireLeanModel" "readPage" "[I") (List.mem_of_getElem? (i := 1) rfl)) (fun _ h9 => h9) rfl dX6_readMore_104 ?_
      refine lv_bipush (v := 22) hx hb dX6_readMore_107 (by decide) ?_
      refine lv_aload_n hx hb dX6_readMore_109 rfl (lv_at hl 0 rfl) ?_
      refine va_get (D := G) (ci := 6) (v := .ref a_m_readPage) (C := RX6) (T := TX6) (N := 26) hx hb hts iw_X6_readMore_X6 hown hK hP 0 rfl rfl 1 (by decide) (hts (.fieldLink RX6 13 "SpireLeanModel" "readPage" "[I") (List.mem_of_getElem? (i := 1) rfl)) (fun _ h9 => h9) rfl dX6_readMore_110 ?_
      refine lv_bipush (v := 21) hx hb dX6_readMore_113 (by decide) ?_
      obtain ⟨v8, hv, h⟩ := zb h
      refine z_iald hx hb hK hP 1 0 rfl rfl hv dX6_readMore_115 ?_
      obtain ⟨v9, hv, h⟩ := zb h
      refine z_iast hx hb hK hP hD hS 1 0 rfl rfl hv dX6_readMore_116 (fun H locs hP hD hS => ?_)
      have hP : va_P G vwCl [(a_m, .inr (6, [.ref a_m_state, .ref a_m_readPage, .int m_toldOnce, .ref a_m_tape, .int m_taped, .int m_fault, .int o6.2.1, .int o6.2.2.1, .int o6.2.2.2.1, .int o6.2.2.2.2.1, .int o6.2.2.2.2.2.1, .int o6.2.2.2.2.2.2, .ref a_m_cuts, .ref a_m_letters, .int m_silent, .int m_greatest, .int m_moves, .int m_holders, .ref a_m_seen, .int m_seenMany, .ref a_m_pointBy, .ref a_m_isKept, .ref a_m_lanes, .ref a_m_lengths, .ref a_m_sheetCells, .int m_torn])), (a_m_readPage, .inl (k 0, 26, .inl v9)), (a_m_tape, .inl (k 0, 160, .inl m_tape))] H := hP
      have hD : va_D A [(a_m, .inr (6, [.ref a_m_state, .ref a_m_readPage, .int m_toldOnce, .ref a_m_tape, .int m_taped, .int m_fault, .int o6.2.1, .int o6.2.2.1, .int o6.2.2.2.1, .int o6.2.2.2.2.1, .int o6.2.2.2.2.2.1, .int o6.2.2.2.2.2.2, .ref a_m_cuts, .ref a_m_letters, .int m_silent, .int m_greatest, .int m_moves, .int m_holders, .ref a_m_seen, .int m_seenMany, .ref a_m_pointBy, .ref a_m_isKept, .ref a_m_lanes, .ref a_m_lengths, .ref a_m_sheetCells, .int m_torn])), (a_m_readPage, .inl (k 0, 26, .inl v9)), (a_m_tape, .inl (k 0, 160, .inl m_tape))] := hD
      refine lv_goto (tgt := 161) hx hb dX6_readMore_117 (by decide) ?_
      have hr := (zs h)
      subst hr
      exact hret H locs ls 161 hP hS dX6_readMore_161
  · have h := zif c21 h
    refine lv_aload_n hx hb dX6_readMore_5 rfl (lv_at hl 0 rfl) ?_
    refine va_get (D := G) (ci := 6) (v := .ref a_m_readPage) (C := RX6) (T := TX6) (N := 26) hx hb hts iw_X6_readMore_X6 hown hK hP 0 rfl rfl 1 (by decide) (hts (.fieldLink RX6 13 "SpireLeanModel" "readPage" "[I") (List.mem_of_getElem? (i := 1) rfl)) (fun _ h9 => h9) rfl dX6_readMore_6 ?_
    refine lv_bipush (v := 20) hx hb dX6_readMore_9 (by decide) ?_
    obtain ⟨v11, hv, h⟩ := zb h
    refine z_iald hx hb hK hP 1 0 rfl rfl hv dX6_readMore_11 ?_
    refine lv_istore_n (lv' := [(2, .int v11), (0, .ref a_m), (1, .int u1)]) hx hb dX6_readMore_12 rfl hl (by decide) rfl (fun ls hl => ?_)
    refine lv_aload_n hx hb dX6_readMore_13 rfl (lv_at hl 1 rfl) ?_
    refine va_get (D := G) (ci := 6) (v := .ref a_m_readPage) (C := RX6) (T := TX6) (N := 26) hx hb hts iw_X6_readMore_X6 hown hK hP 0 rfl rfl 1 (by decide) (hts (.fieldLink RX6 13 "SpireLeanModel" "readPage" "[I") (List.mem_of_getElem? (i := 1) rfl)) (fun _ h9 => h9) rfl dX6_readMore_14 ?_
    refine lv_iload_n hx hb dX6_readMore_17 rfl (lv_at hl 0 rfl) ?_
    refine lv_iload_n hx hb dX6_readMore_18 rfl (lv_at hl 2 rfl) ?_
    obtain ⟨v12, hv, h⟩ := zb h
    refine z_iast hx hb hK hP hD hS 1 0 rfl rfl hv dX6_readMore_19 (fun H locs hP hD hS => ?_)
    have hP : va_P G vwCl [(a_m, .inr (6, [.ref a_m_state, .ref a_m_readPage, .int m_toldOnce, .ref a_m_tape, .int m_taped, .int m_fault, .int m_broken, .int m_brokenAt, .int m_spot, .int m_here, .int m_token, .int m_value, .ref a_m_cuts, .ref a_m_letters, .int m_silent, .int m_greatest, .int m_moves, .int m_holders, .ref a_m_seen, .int m_seenMany, .ref a_m_pointBy, .ref a_m_isKept, .ref a_m_lanes, .ref a_m_lengths, .ref a_m_sheetCells, .int m_torn])), (a_m_readPage, .inl (k 0, 26, .inl v12)), (a_m_tape, .inl (k 0, 160, .inl m_tape))] H := hP
    have hD : va_D A [(a_m, .inr (6, [.ref a_m_state, .ref a_m_readPage, .int m_toldOnce, .ref a_m_tape, .int m_taped, .int m_fault, .int m_broken, .int m_brokenAt, .int m_spot, .int m_here, .int m_token, .int m_value, .ref a_m_cuts, .ref a_m_letters, .int m_silent, .int m_greatest, .int m_moves, .int m_holders, .ref a_m_seen, .int m_seenMany, .ref a_m_pointBy, .ref a_m_isKept, .ref a_m_lanes, .ref a_m_lengths, .ref a_m_sheetCells, .int m_torn])), (a_m_readPage, .inl (k 0, 26, .inl v12)), (a_m_tape, .inl (k 0, 160, .inl m_tape))] := hD
    refine lv_aload_n hx hb dX6_readMore_20 rfl (lv_at hl 1 rfl) ?_
    refine va_get (D := G) (ci := 6) (v := .ref a_m_readPage) (C := RX6) (T := TX6) (N := 26) hx hb hts iw_X6_readMore_X6 hown hK hP 0 rfl rfl 1 (by decide) (hts (.fieldLink RX6 13 "SpireLeanModel" "readPage" "[I") (List.mem_of_getElem? (i := 1) rfl)) (fun _ h9 => h9) rfl dX6_readMore_21 ?_
    refine lv_iconst (v := 5) hx hb dX6_readMore_24 (by decide) ?_
    refine lv_iload_n hx hb dX6_readMore_25 rfl (lv_at hl 0 rfl) ?_
    refine lv_iadd hx hb dX6_readMore_26 ?_
    refine lv_aload_n hx hb dX6_readMore_27 rfl (lv_at hl 1 rfl) ?_
    refine lv_iconst (v := 1) hx hb dX6_readMore_28 (by decide) ?_
    refine lv_bipush (v := 20) hx hb dX6_readMore_29 (by decide) ?_
    obtain ⟨o13, hv, h⟩ := zb h
    refine z_goi (w2 := [(a_m, .inr (6, [.ref a_m_state, .ref a_m_readPage, .int m_toldOnce, .ref a_m_tape, .int m_taped, .int m_fault, .int o13.2.1, .int o13.2.2.1, .int o13.2.2.2.1, .int o13.2.2.2.2.1, .int o13.2.2.2.2.2.1, .int o13.2.2.2.2.2.2, .ref a_m_cuts, .ref a_m_letters, .int m_silent, .int m_greatest, .int m_moves, .int m_holders, .ref a_m_seen, .int m_seenMany, .ref a_m_pointBy, .ref a_m_isKept, .ref a_m_lanes, .ref a_m_lengths, .ref a_m_sheetCells, .int m_torn])), (a_m_readPage, .inl (k 0, 26, .inl v12)), (a_m_tape, .inl (k 0, 160, .inl m_tape))]) [0, 2] (va_runV (As := [.int (1 : Int32), .int (20 : Int32)]) (rest := [.int ((5 : Int32) + v11), .ref a_m_readPage]) ⟨hx, hb, hml, hown, hts⟩ (c_X6_number l G k tL tM sK sV a_m a_m_state a_m_readPage a_m_tape a_m_cuts a_m_letters a_m_seen a_m_pointBy a_m_isKept a_m_lanes a_m_lengths a_m_sheetCells H.size m_toldOnce m_taped m_fault m_broken m_brokenAt m_spot m_here m_token m_value m_silent m_greatest m_moves m_holders m_seenMany m_torn m_tape (1 : Int32) (20 : Int32) o13 hv) (cwV 2 hts gX6_readMore_X6_number rfl rfl rfl (by decide +kernel) ⟨Nat.le_of_ble_eq_true rfl, Nat.le_of_ble_eq_true rfl⟩) (z_preV (wc := [(a_m, .inr (6, [.ref a_m_state, .ref a_m_readPage, .int m_toldOnce, .ref a_m_tape, .int m_taped, .int m_fault, .int m_broken, .int m_brokenAt, .int m_spot, .int m_here, .int m_token, .int m_value, .ref a_m_cuts, .ref a_m_letters, .int m_silent, .int m_greatest, .int m_moves, .int m_holders, .ref a_m_seen, .int m_seenMany, .ref a_m_pointBy, .ref a_m_isKept, .ref a_m_lanes, .ref a_m_lengths, .ref a_m_sheetCells, .int m_torn])), (a_m_tape, .inl (k 0, 160, .inl m_tape))]) [0, 2] 0 6 hK hE hA hP hD hS (by decide) rfl rfl rfl) rfl rfl hl.1 rfl (lv_room (Nat.le_of_ble_eq_true rfl)) dX6_readMore_31 ⟨Nat.le_refl _, Nat.le_refl _⟩) hA hP hD hS rfl rfl rfl rfl (fun H locs hP hD hS => ?_)
    obtain ⟨v14, hv, h⟩ := zb h
    refine z_iast hx hb hK hP hD hS 1 0 rfl rfl hv dX6_readMore_34 (fun H locs hP hD hS => ?_)
    have hP : va_P G vwCl [(a_m, .inr (6, [.ref a_m_state, .ref a_m_readPage, .int m_toldOnce, .ref a_m_tape, .int m_taped, .int m_fault, .int o13.2.1, .int o13.2.2.1, .int o13.2.2.2.1, .int o13.2.2.2.2.1, .int o13.2.2.2.2.2.1, .int o13.2.2.2.2.2.2, .ref a_m_cuts, .ref a_m_letters, .int m_silent, .int m_greatest, .int m_moves, .int m_holders, .ref a_m_seen, .int m_seenMany, .ref a_m_pointBy, .ref a_m_isKept, .ref a_m_lanes, .ref a_m_lengths, .ref a_m_sheetCells, .int m_torn])), (a_m_readPage, .inl (k 0, 26, .inl v14)), (a_m_tape, .inl (k 0, 160, .inl m_tape))] H := hP
    have hD : va_D A [(a_m, .inr (6, [.ref a_m_state, .ref a_m_readPage, .int m_toldOnce, .ref a_m_tape, .int m_taped, .int m_fault, .int o13.2.1, .int o13.2.2.1, .int o13.2.2.2.1, .int o13.2.2.2.2.1, .int o13.2.2.2.2.2.1, .int o13.2.2.2.2.2.2, .ref a_m_cuts, .ref a_m_letters, .int m_silent, .int m_greatest, .int m_moves, .int m_holders, .ref a_m_seen, .int m_seenMany, .ref a_m_pointBy, .ref a_m_isKept, .ref a_m_lanes, .ref a_m_lengths, .ref a_m_sheetCells, .int m_torn])), (a_m_readPage, .inl (k 0, 26, .inl v14)), (a_m_tape, .inl (k 0, 160, .inl m_tape))] := hD
    refine lv_aload_n hx hb dX6_readMore_35 rfl (lv_at hl 1 rfl) ?_
    refine va_get (D := G) (ci := 6) (v := .ref a_m_readPage) (C := RX6) (T := TX6) (N := 26) hx hb hts iw_X6_readMore_X6 hown hK hP 0 rfl rfl 1 (by decide) (hts (.fieldLink RX6 13 "SpireLeanModel" "readPage" "[I") (List.mem_of_getElem? (i := 1) rfl)) (fun _ h9 => h9) rfl dX6_readMore_36 ?_
    refine lv_bipush (v := 10) hx hb dX6_readMore_39 (by decide) ?_
    refine lv_iload_n hx hb dX6_readMore_41 rfl (lv_at hl 0 rfl) ?_
    refine lv_iadd hx hb dX6_readMore_42 ?_
    refine lv_aload_n hx hb dX6_readMore_43 rfl (lv_at hl 1 rfl) ?_
    refine lv_iconst (v := 0) hx hb dX6_readMore_44 (by decide) ?_
    refine lv_bipush (v := 99) hx hb dX6_readMore_45 (by decide) ?_
    obtain ⟨o15, hv, h⟩ := zb h
    refine z_goi (w2 := [(a_m, .inr (6, [.ref a_m_state, .ref a_m_readPage, .int m_toldOnce, .ref a_m_tape, .int m_taped, .int m_fault, .int o15.2.1, .int o15.2.2.1, .int o15.2.2.2.1, .int o15.2.2.2.2.1, .int o15.2.2.2.2.2.1, .int o15.2.2.2.2.2.2, .ref a_m_cuts, .ref a_m_letters, .int m_silent, .int m_greatest, .int m_moves, .int m_holders, .ref a_m_seen, .int m_seenMany, .ref a_m_pointBy, .ref a_m_isKept, .ref a_m_lanes, .ref a_m_lengths, .ref a_m_sheetCells, .int m_torn])), (a_m_readPage, .inl (k 0, 26, .inl v14)), (a_m_tape, .inl (k 0, 160, .inl m_tape))]) [0, 2] (va_runV (As := [.int (0 : Int32), .int (99 : Int32)]) (rest := [.int ((10 : Int32) + v11), .ref a_m_readPage]) ⟨hx, hb, hml, hown, hts⟩ (c_X6_number l G k tL tM sK sV a_m a_m_state a_m_readPage a_m_tape a_m_cuts a_m_letters a_m_seen a_m_pointBy a_m_isKept a_m_lanes a_m_lengths a_m_sheetCells H.size m_toldOnce m_taped m_fault o13.2.1 o13.2.2.1 o13.2.2.2.1 o13.2.2.2.2.1 o13.2.2.2.2.2.1 o13.2.2.2.2.2.2 m_silent m_greatest m_moves m_holders m_seenMany m_torn m_tape (0 : Int32) (99 : Int32) o15 hv) (cwV 2 hts gX6_readMore_X6_number rfl rfl rfl (by decide +kernel) ⟨Nat.le_of_ble_eq_true rfl, Nat.le_of_ble_eq_true rfl⟩) (z_preV (wc := [(a_m, .inr (6, [.ref a_m_state, .ref a_m_readPage, .int m_toldOnce, .ref a_m_tape, .int m_taped, .int m_fault, .int o13.2.1, .int o13.2.2.1, .int o13.2.2.2.1, .int o13.2.2.2.2.1, .int o13.2.2.2.2.2.1, .int o13.2.2.2.2.2.2, .ref a_m_cuts, .ref a_m_letters, .int m_silent, .int m_greatest, .int m_moves, .int m_holders, .ref a_m_seen, .int m_seenMany, .ref a_m_pointBy, .ref a_m_isKept, .ref a_m_lanes, .ref a_m_lengths, .ref a_m_sheetCells, .int m_torn])), (a_m_tape, .inl (k 0, 160, .inl m_tape))]) [0, 2] 0 6 hK hE hA hP hD hS (by decide) rfl rfl rfl) rfl rfl hl.1 rfl (lv_room (Nat.le_of_ble_eq_true rfl)) dX6_readMore_47 ⟨Nat.le_refl _, Nat.le_refl _⟩) hA hP hD hS rfl rfl rfl rfl (fun H locs hP hD hS => ?_)
    obtain ⟨v16, hv, h⟩ := zb h
    refine z_iast hx hb hK hP hD hS 1 0 rfl rfl hv dX6_readMore_50 (fun H locs hP hD hS => ?_)
    have hP : va_P G vwCl [(a_m, .inr (6, [.ref a_m_state, .ref a_m_readPage, .int m_toldOnce, .ref a_m_tape, .int m_taped, .int m_fault, .int o15.2.1, .int o15.2.2.1, .int o15.2.2.2.1, .int o15.2.2.2.2.1, .int o15.2.2.2.2.2.1, .int o15.2.2.2.2.2.2, .ref a_m_cuts, .ref a_m_letters, .int m_silent, .int m_greatest, .int m_moves, .int m_holders, .ref a_m_seen, .int m_seenMany, .ref a_m_pointBy, .ref a_m_isKept, .ref a_m_lanes, .ref a_m_lengths, .ref a_m_sheetCells, .int m_torn])), (a_m_readPage, .inl (k 0, 26, .inl v16)), (a_m_tape, .inl (k 0, 160, .inl m_tape))] H := hP
    have hD : va_D A [(a_m, .inr (6, [.ref a_m_state, .ref a_m_readPage, .int m_toldOnce, .ref a_m_tape, .int m_taped, .int m_fault, .int o15.2.1, .int o15.2.2.1, .int o15.2.2.2.1, .int o15.2.2.2.2.1, .int o15.2.2.2.2.2.1, .int o15.2.2.2.2.2.2, .ref a_m_cuts, .ref a_m_letters, .int m_silent, .int m_greatest, .int m_moves, .int m_holders, .ref a_m_seen, .int m_seenMany, .ref a_m_pointBy, .ref a_m_isKept, .ref a_m_lanes, .ref a_m_lengths, .ref a_m_sheetCells, .int m_torn])), (a_m_readPage, .inl (k 0, 26, .inl v16)), (a_m_tape, .inl (k 0, 160, .inl m_tape))] := hD
    refine lv_aload_n hx hb dX6_readMore_51 rfl (lv_at hl 1 rfl) ?_
    refine va_get (D := G) (ci := 6) (v := .ref a_m_readPage) (C := RX6) (T := TX6) (N := 26) hx hb hts iw_X6_readMore_X6 hown hK hP 0 rfl rfl 1 (by decide) (hts (.fieldLink RX6 13 "SpireLeanModel" "readPage" "[I") (List.mem_of_getElem? (i := 1) rfl)) (fun _ h9 => h9) rfl dX6_readMore_52 ?_
    refine lv_bipush (v := 15) hx hb dX6_readMore_55 (by decide) ?_
    refine lv_iload_n hx hb dX6_readMore_57 rfl (lv_at hl 0 rfl) ?_
    refine lv_iadd hx hb dX6_readMore_58 ?_
    refine lv_aload_n hx hb dX6_readMore_59 rfl (lv_at hl 1 rfl) ?_
    refine lv_iconst (v := 0) hx hb dX6_readMore_60 (by decide) ?_
    refine lv_bipush (v := 60) hx hb dX6_readMore_61 (by decide) ?_
    obtain ⟨o17, hv, h⟩ := zb h
    refine z_goi (w2 := [(a_m, .inr (6, [.ref a_m_state, .ref a_m_readPage, .int m_toldOnce, .ref a_m_tape, .int m_taped, .int m_fault, .int o17.2.1, .int o17.2.2.1, .int o17.2.2.2.1, .int o17.2.2.2.2.1, .int o17.2.2.2.2.2.1, .int o17.2.2.2.2.2.2, .ref a_m_cuts, .ref a_m_letters, .int m_silent, .int m_greatest, .int m_moves, .int m_holders, .ref a_m_seen, .int m_seenMany, .ref a_m_pointBy, .ref a_m_isKept, .ref a_m_lanes, .ref a_m_lengths, .ref a_m_sheetCells, .int m_torn])), (a_m_readPage, .inl (k 0, 26, .inl v16)), (a_m_tape, .inl (k 0, 160, .inl m_tape))]) [0, 2] (va_runV (As := [.int (0 : Int32), .int (60 : Int32)]) (rest := [.int ((15 : Int32) + v11), .ref a_m_readPage]) ⟨hx, hb, hml, hown, hts⟩ (c_X6_number l G k tL tM sK sV a_m a_m_state a_m_readPage a_m_tape a_m_cuts a_m_letters a_m_seen a_m_pointBy a_m_isKept a_m_lanes a_m_lengths a_m_sheetCells H.size m_toldOnce m_taped m_fault o15.2.1 o15.2.2.1 o15.2.2.2.1 o15.2.2.2.2.1 o15.2.2.2.2.2.1 o15.2.2.2.2.2.2 m_silent m_greatest m_moves m_holders m_seenMany m_torn m_tape (0 : Int32) (60 : Int32) o17 hv) (cwV 2 hts gX6_readMore_X6_number rfl rfl rfl (by decide +kernel) ⟨Nat.le_of_ble_eq_true rfl, Nat.le_of_ble_eq_true rfl⟩) (z_preV (wc := [(a_m, .inr (6, [.ref a_m_state, .ref a_m_readPage, .int m_toldOnce, .ref a_m_tape, .int m_taped, .int m_fault, .int o15.2.1, .int o15.2.2.1, .int o15.2.2.2.1, .int o15.2.2.2.2.1, .int o15.2.2.2.2.2.1, .int o15.2.2.2.2.2.2, .ref a_m_cuts, .ref a_m_letters, .int m_silent, .int m_greatest, .int m_moves, .int m_holders, .ref a_m_seen, .int m_seenMany, .ref a_m_pointBy, .ref a_m_isKept, .ref a_m_lanes, .ref a_m_lengths, .ref a_m_sheetCells, .int m_torn])), (a_m_tape, .inl (k 0, 160, .inl m_tape))]) [0, 2] 0 6 hK hE hA hP hD hS (by decide) rfl rfl rfl) rfl rfl hl.1 rfl (lv_room (Nat.le_of_ble_eq_true rfl)) dX6_readMore_63 ⟨Nat.le_refl _, Nat.le_refl _⟩) hA hP hD hS rfl rfl rfl rfl (fun H locs hP hD hS => ?_)
    obtain ⟨v18, hv, h⟩ := zb h
    refine z_iast hx hb hK hP hD hS 1 0 rfl rfl hv dX6_readMore_66 (fun H locs hP hD hS => ?_)
    have hP : va_P G vwCl [(a_m, .inr (6, [.ref a_m_state, .ref a_m_readPage, .int m_toldOnce, .ref a_m_tape, .int m_taped, .int m_fault, .int o17.2.1, .int o17.2.2.1, .int o17.2.2.2.1, .int o17.2.2.2.2.1, .int o17.2.2.2.2.2.1, .int o17.2.2.2.2.2.2, .ref a_m_cuts, .ref a_m_letters, .int m_silent, .int m_greatest, .int m_moves, .int m_holders, .ref a_m_seen, .int m_seenMany, .ref a_m_pointBy, .ref a_m_isKept, .ref a_m_lanes, .ref a_m_lengths, .ref a_m_sheetCells, .int m_torn])), (a_m_readPage, .inl (k 0, 26, .inl v18)), (a_m_tape, .inl (k 0, 160, .inl m_tape))] H := hP
    have hD : va_D A [(a_m, .inr (6, [.ref a_m_state, .ref a_m_readPage, .int m_toldOnce, .ref a_m_tape, .int m_taped, .int m_fault, .int o17.2.1, .int o17.2.2.1, .int o17.2.2.2.1, .int o17.2.2.2.2.1, .int o17.2.2.2.2.2.1, .int o17.2.2.2.2.2.2, .ref a_m_cuts, .ref a_m_letters, .int m_silent, .int m_greatest, .int m_moves, .int m_holders, .ref a_m_seen, .int m_seenMany, .ref a_m_pointBy, .ref a_m_isKept, .ref a_m_lanes, .ref a_m_lengths, .ref a_m_sheetCells, .int m_torn])), (a_m_readPage, .inl (k 0, 26, .inl v18)), (a_m_tape, .inl (k 0, 160, .inl m_tape))] := hD
    refine lv_aload_n hx hb dX6_readMore_67 rfl (lv_at hl 1 rfl) ?_
    refine va_get (D := G) (ci := 6) (v := .ref a_m_readPage) (C := RX6) (T := TX6) (N := 26) hx hb hts iw_X6_readMore_X6 hown hK hP 0 rfl rfl 1 (by decide) (hts (.fieldLink RX6 13 "SpireLeanModel" "readPage" "[I") (List.mem_of_getElem? (i := 1) rfl)) (fun _ h9 => h9) rfl dX6_readMore_68 ?_
    refine lv_bipush (v := 20) hx hb dX6_readMore_71 (by decide) ?_
    refine lv_dup2_11 hx hb dX6_readMore_73 rfl rfl ?_
    obtain ⟨v19, hv, h⟩ := zb h
    refine z_iald hx hb hK hP 1 0 rfl rfl hv dX6_readMore_74 ?_
    refine lv_iconst (v := 1) hx hb dX6_readMore_75 (by decide) ?_
    refine lv_iadd hx hb dX6_readMore_76 ?_
    obtain ⟨v20, hv, h⟩ := zb h
    refine z_iast hx hb hK hP hD hS 1 0 rfl rfl hv dX6_readMore_77 (fun H locs hP hD hS => ?_)
    have hP : va_P G vwCl [(a_m, .inr (6, [.ref a_m_state, .ref a_m_readPage, .int m_toldOnce, .ref a_m_tape, .int m_taped, .int m_fault, .int o17.2.1, .int o17.2.2.1, .int o17.2.2.2.1, .int o17.2.2.2.2.1, .int o17.2.2.2.2.2.1, .int o17.2.2.2.2.2.2, .ref a_m_cuts, .ref a_m_letters, .int m_silent, .int m_greatest, .int m_moves, .int m_holders, .ref a_m_seen, .int m_seenMany, .ref a_m_pointBy, .ref a_m_isKept, .ref a_m_lanes, .ref a_m_lengths, .ref a_m_sheetCells, .int m_torn])), (a_m_readPage, .inl (k 0, 26, .inl v20)), (a_m_tape, .inl (k 0, 160, .inl m_tape))] H := hP
    have hD : va_D A [(a_m, .inr (6, [.ref a_m_state, .ref a_m_readPage, .int m_toldOnce, .ref a_m_tape, .int m_taped, .int m_fault, .int o17.2.1, .int o17.2.2.1, .int o17.2.2.2.1, .int o17.2.2.2.2.1, .int o17.2.2.2.2.2.1, .int o17.2.2.2.2.2.2, .ref a_m_cuts, .ref a_m_letters, .int m_silent, .int m_greatest, .int m_moves, .int m_holders, .ref a_m_seen, .int m_seenMany, .ref a_m_pointBy, .ref a_m_isKept, .ref a_m_lanes, .ref a_m_lengths, .ref a_m_sheetCells, .int m_torn])), (a_m_readPage, .inl (k 0, 26, .inl v20)), (a_m_tape, .inl (k 0, 160, .inl m_tape))] := hD
    refine lv_goto (tgt := 161) hx hb dX6_readMore_78 (by decide) ?_
    have hr := (zs h)
    subst hr
    exact hret H locs ls 161 hP hS dX6_readMore_161
theorem iw_X6_readLine_X6 : ∀ w ∈ wsX60, w ∈ wsX6_readLine := fun _ h => List.mem_cons_of_mem _ (List.mem_append_right _ h)
set_option maxHeartbeats 4000000 in
set_option maxRecDepth 100000 in
theorem c_X6_readLine (l : Launch) (G : va_G) (k : Nat → ClassId) (tL tM : Nat) (sK sV : Nat → Nat) (a_m : Nat) (a_m_state : Nat) (a_m_readPage : Nat) (a_m_tape : Nat) (a_m_cuts : Nat) (a_m_letters : Nat) (a_m_seen : Nat) (a_m_pointBy : Nat) (a_m_isKept : Nat) (a_m_lanes : Nat) (a_m_lengths : Nat) (a_m_sheetCells : Nat) (sz : Nat) (m_toldOnce : Int32) (m_taped : Int32) (m_fault : Int32) (m_broken : Int32) (m_brokenAt : Int32) (m_spot : Int32) (m_here : Int32) (m_token : Int32) (m_value : Int32) (m_silent : Int32) (m_greatest : Int32) (m_moves : Int32) (m_holders : Int32) (m_seenMany : Int32) (m_torn : Int32) (m_readPage : Nat → Int32) (m_tape : Nat → Int32) (m_cuts : Nat → Int32) (m_letters : Nat → Int32) (out : Int32 × Int32 × Int32 × Int32 × Int32 × Int32 × Int32 × (Nat → Int32)) (h : p_X6_readLine m_toldOnce m_taped m_broken m_brokenAt m_spot m_here m_token m_value m_readPage m_tape m_cuts m_letters = some out) : zMv l yX6_readLine wsX6_readLine 4 91 G k tL tM sK sV [.ref a_m] [(a_m, .inr (6, [.ref a_m_state, .ref a_m_readPage, .int m_toldOnce, .ref a_m_tape, .int m_taped, .int m_fault, .int m_broken, .int m_brokenAt, .int m_spot, .int m_here, .int m_token, .int m_value, .ref a_m_cuts, .ref a_m_letters, .int m_silent, .int m_greatest, .int m_moves, .int m_holders, .ref a_m_seen, .int m_seenMany, .ref a_m_pointBy, .ref a_m_isKept, .ref a_m_lanes, .ref a_m_lengths, .ref a_m_sheetCells, .int m_torn])), (a_m_readPage, .inl (k 0, 26, .inl m_readPage)), (a_m_tape, .inl (k 0, 160, .inl m_tape)), (a_m_cuts, .inl (k 0, 8, .inl m_cuts)), (a_m_letters, .inl (k 0, 37, .inl m_letters))] [(a_m, .inr (6, [.ref a_m_state, .ref a_m_readPage, .int out.1, .ref a_m_tape, .int m_taped, .int m_fault, .int out.2.1, .int out.2.2.1, .int out.2.2.2.1, .int out.2.2.2.2.1, .int out.2.2.2.2.2.1, .int out.2.2.2.2.2.2.1, .ref a_m_cuts, .ref a_m_letters, .int m_silent, .int m_greatest, .int m_moves, .int m_holders, .ref a_m_seen, .int m_seenMany, .ref a_m_pointBy, .ref a_m_isKept, .ref a_m_lanes, .ref a_m_lengths, .ref a_m_sheetCells, .int m_torn])), (a_m_readPage, .inl (k 0, 26, .inl out.2.2.2.2.2.2.2)), (a_m_tape, .inl (k 0, 160, .inl m_tape)), (a_m_cuts, .inl (k 0, 8, .inl m_cuts)), (a_m_letters, .inl (k 0, 37, .inl m_letters))] sz := by
  refine z_metv (cc := cX6_readLine) (maxL := 2) (by decide) rfl (Nat.le_of_ble_eq_true rfl) ?_
  intro p e s m below meth c A Q H locs ls hx hb hml hts hown hA hK hE hret hP hD hS hl
  have hown : s.vm.findClass RX6 = some m.cls := hown
  have hl : lv_has ls 2 [(0, .ref a_m)] := hl
  unfold p_X6_readLine at h
  refine lv_aload_n hx hb dX6_readLine_0 rfl (lv_at hl 0 rfl) ?_
  obtain ⟨o1, hv, h⟩ := zb h
  refine z_goi (w2 := [(a_m, .inr (6, [.ref a_m_state, .ref a_m_readPage, .int m_toldOnce, .ref a_m_tape, .int m_taped, .int m_fault, .int m_broken, .int m_brokenAt, .int m_spot, .int m_here, .int m_token, .int m_value, .ref a_m_cuts, .ref a_m_letters, .int m_silent, .int m_greatest, .int m_moves, .int m_holders, .ref a_m_seen, .int m_seenMany, .ref a_m_pointBy, .ref a_m_isKept, .ref a_m_lanes, .ref a_m_lengths, .ref a_m_sheetCells, .int m_torn])), (a_m_readPage, .inl (k 0, 26, .inl m_readPage)), (a_m_tape, .inl (k 0, 160, .inl m_tape)), (a_m_cuts, .inl (k 0, 8, .inl m_cuts)), (a_m_letters, .inl (k 0, 37, .inl m_letters))]) [0, 2, 3, 4] (va_runV (As := []) (rest := []) ⟨hx, hb, hml, hown, hts⟩ (c_X6_nameHere l G k tL tM sK sV a_m a_m_state a_m_readPage a_m_tape a_m_cuts a_m_letters a_m_seen a_m_pointBy a_m_isKept a_m_lanes a_m_lengths a_m_sheetCells H.size m_toldOnce m_taped m_fault m_broken m_brokenAt m_spot m_here m_token m_value m_silent m_greatest m_moves m_holders m_seenMany m_torn m_tape m_cuts m_letters o1 hv) (cwV 0 hts gX6_readLine_X6_nameHere rfl rfl rfl (by decide +kernel) ⟨Nat.le_of_ble_eq_true rfl, Nat.le_of_ble_eq_true rfl⟩) (z_preV (wc := [(a_m, .inr (6, [.ref a_m_state, .ref a_m_readPage, .int m_toldOnce, .ref a_m_tape, .int m_taped, .int m_fault, .int m_broken, .int m_brokenAt, .int m_spot, .int m_here, .int m_token, .int m_value, .ref a_m_cuts, .ref a_m_letters, .int m_silent, .int m_greatest, .int m_moves, .int m_holders, .ref a_m_seen, .int m_seenMany, .ref a_m_pointBy, .ref a_m_isKept, .ref a_m_lanes, .ref a_m_lengths, .ref a_m_sheetCells, .int m_torn])), (a_m_tape, .inl (k 0, 160, .inl m_tape)), (a_m_cuts, .inl (k 0, 8, .inl m_cuts)), (a_m_letters, .inl (k 0, 37, .inl m_letters))]) [0, 2, 3, 4] 0 6 hK hE hA hP hD hS (by decide) rfl rfl rfl) rfl rfl hl.1 rfl (lv_room (Nat.le_of_ble_eq_true rfl)) dX6_readLine_1 ⟨Nat.le_refl _, Nat.le_refl _⟩) hA hP hD hS rfl rfl rfl rfl (fun H locs hP hD hS => ?_)
  refine lv_istore_n (lv' := [(1, .int o1), (0, .ref a_m)]) hx hb dX6_readLine_4 rfl hl (by decide) rfl (fun ls hl => ?_)
  refine lv_iload_n hx hb dX6_readLine_5 rfl (lv_at hl 0 rfl) ?_
  refine lv_i2l (v := o1.toInt64) hx hb dX6_readLine_6 rfl ?_
  refine lv_lconst (v := 0) hx hb dX6_readLine_7 (by decide) ?_
  refine lv_ldc2 hx hb hown (hts (.constantLong RX6 102 (6)) (List.mem_of_getElem? (i := 1) rfl)) dX6_readLine_8 ?_
  obtain ⟨o2, hv, h⟩ := zb h
  refine z_goi (w2 := [(a_m, .inr (6, [.ref a_m_state, .ref a_m_readPage, .int m_toldOnce, .ref a_m_tape, .int m_taped, .int m_fault, .int m_broken, .int m_brokenAt, .int m_spot, .int m_here, .int m_token, .int m_value, .ref a_m_cuts, .ref a_m_letters, .int m_silent, .int m_greatest, .int m_moves, .int m_holders, .ref a_m_seen, .int m_seenMany, .ref a_m_pointBy, .ref a_m_isKept, .ref a_m_lanes, .ref a_m_lengths, .ref a_m_sheetCells, .int m_torn])), (a_m_readPage, .inl (k 0, 26, .inl m_readPage)), (a_m_tape, .inl (k 0, 160, .inl m_tape)), (a_m_cuts, .inl (k 0, 8, .inl m_cuts)), (a_m_letters, .inl (k 0, 37, .inl m_letters))]) [] (va_runS (As := [.long o1.toInt64, .long (0 : Int64), .long (6 : Int64)]) (rest := []) ⟨hx, hb, hml, hown, hts⟩ (c_X6_in l G k tL tM sK sV H.size o1.toInt64 (0 : Int64) (6 : Int64) o2 hv) (va_cwS 3 hts gX6_readLine_X6_in rfl rfl rfl (by decide +kernel) ⟨Nat.le_of_ble_eq_true rfl, Nat.le_of_ble_eq_true rfl⟩) (z_preS (wc := []) [] hK hE hA hP hD hS (by decide) rfl) rfl rfl hl.1 rfl (lv_room (Nat.le_of_ble_eq_true rfl)) dX6_readLine_11 ⟨Nat.le_refl _, Nat.le_refl _⟩) hA hP hD hS rfl rfl rfl rfl (fun H locs hP hD hS => ?_)
  refine lv_if_ne (tgt := 23) hx hb dX6_readLine_14 (by decide) (fun c27 => ?_) (fun c27 => ?_)
  · have h := zif c27 h
    refine lv_iload_n hx hb dX6_readLine_23 rfl (lv_at hl 0 rfl) ?_
    refine lv_iconst (v := 3) hx hb dX6_readLine_24 (by decide) ?_
    obtain ⟨e3, hv, h⟩ := zb h
    have hJ4 : ∀ (e3_ : Int32 × Int32), e3_ = e3 → zW p l e (zR 4 91) s m ([.ref a_m] : List Value).toArray below meth c Q 2 A G [(a_m, .inr (6, [.ref a_m_state, .ref a_m_readPage, .int m_toldOnce, .ref a_m_tape, .int m_taped, .int m_fault, .int e3_.1, .int e3_.2, .int m_spot, .int m_here, .int m_token, .int m_value, .ref a_m_cuts, .ref a_m_letters, .int m_silent, .int m_greatest, .int m_moves, .int m_holders, .ref a_m_seen, .int m_seenMany, .ref a_m_pointBy, .ref a_m_isKept, .ref a_m_lanes, .ref a_m_lengths, .ref a_m_sheetCells, .int m_torn])), (a_m_readPage, .inl (k 0, 26, .inl m_readPage)), (a_m_tape, .inl (k 0, 160, .inl m_tape)), (a_m_cuts, .inl (k 0, 8, .inl m_cuts)), (a_m_letters, .inl (k 0, 37, .inl m_letters))] [(0, .ref a_m), (1, .int o1)] 44 [] := by
      intro e3_ hz
      subst hz
      intro H locs ls hP hD hS hl
      refine lv_iload_n hx hb dX6_readLine_44 rfl (lv_at hl 1 rfl) ?_
      refine lv_iconst (v := 4) hx hb dX6_readLine_45 (by decide) ?_
      obtain ⟨e10, hv, h⟩ := zb h
      have hJ11 : ∀ (e10_ : Int32 × Int32), e10_ = e10 → zW p l e (zR 4 91) s m ([.ref a_m] : List Value).toArray below meth c Q 2 A G [(a_m, .inr (6, [.ref a_m_state, .ref a_m_readPage, .int m_toldOnce, .ref a_m_tape, .int m_taped, .int m_fault, .int e10_.1, .int e10_.2, .int m_spot, .int m_here, .int m_token, .int m_value, .ref a_m_cuts, .ref a_m_letters, .int m_silent, .int m_greatest, .int m_moves, .int m_holders, .ref a_m_seen, .int m_seenMany, .ref a_m_pointBy, .ref a_m_isKept, .ref a_m_lanes, .ref a_m_lengths, .ref a_m_sheetCells, .int m_torn])), (a_m_readPage, .inl (k 0, 26, .inl m_readPage)), (a_m_tape, .inl (k 0, 160, .inl m_tape)), (a_m_cuts, .inl (k 0, 8, .inl m_cuts)), (a_m_letters, .inl (k 0, 37, .inl m_letters))] [(0, .ref a_m), (1, .int o1)] 66 [] := by
        intro e10_ hz
        subst hz
        intro H locs ls hP hD hS hl
        refine lv_aload_n hx hb dX6_readLine_66 rfl (lv_at hl 0 rfl) ?_
        refine lv_dup hx hb dX6_readLine_67 rfl ?_
        refine va_get (D := G) (ci := 6) (v := .int m_toldOnce) (C := RX6) (T := TX6) (N := 26) hx hb hts iw_X6_readLine_X6 hown hK hP 0 rfl rfl 2 (by decide) (hts (.fieldLink RX6 104 "SpireLeanModel" "toldOnce" "I") (List.mem_of_getElem? (i := 3) rfl)) (fun _ h9 => h9) rfl dX6_readLine_68 ?_
        refine lv_iconst (v := 1) hx hb dX6_readLine_71 (by decide) ?_
        refine lv_iload_n hx hb dX6_readLine_72 rfl (lv_at hl 1 rfl) ?_
        refine lv_ishl hx hb dX6_readLine_73 ?_
        refine lv_ior hx hb dX6_readLine_74 ?_
        refine va_put (D := G) (ci := 6) (v := .int (m_toldOnce ||| ((1 : Int32) <<< (o1 &&& 31)))) (ty := .int) (C := RX6) (T := TX6) (N := 26) hx hb hts iw_X6_readLine_X6 tyX6 tyX6_ok nmX6 hown hK hP hD hS 0 rfl rfl 2 (by decide) (hts (.fieldLink RX6 104 "SpireLeanModel" "toldOnce" "I") (List.mem_of_getElem? (i := 3) rfl)) (fun _ h9 => h9) rfl (tyX6_ok 2 (by decide)) rfl rfl (Nat.le_of_ble_eq_true rfl) dX6_readLine_75 (fun H locs hP hD hS => ?_)
        have hP : va_P G vwCl [(a_m, .inr (6, [.ref a_m_state, .ref a_m_readPage, .int (m_toldOnce ||| ((1 : Int32) <<< (o1 &&& 31))), .ref a_m_tape, .int m_taped, .int m_fault, .int e10_.1, .int e10_.2, .int m_spot, .int m_here, .int m_token, .int m_value, .ref a_m_cuts, .ref a_m_letters, .int m_silent, .int m_greatest, .int m_moves, .int m_holders, .ref a_m_seen, .int m_seenMany, .ref a_m_pointBy, .ref a_m_isKept, .ref a_m_lanes, .ref a_m_lengths, .ref a_m_sheetCells, .int m_torn])), (a_m_readPage, .inl (k 0, 26, .inl m_readPage)), (a_m_tape, .inl (k 0, 160, .inl m_tape)), (a_m_cuts, .inl (k 0, 8, .inl m_cuts)), (a_m_letters, .inl (k 0, 37, .inl m_letters))] H := hP
        have hD : va_D A [(a_m, .inr (6, [.ref a_m_state, .ref a_m_readPage, .int (m_toldOnce ||| ((1 : Int32) <<< (o1 &&& 31))), .ref a_m_tape, .int m_taped, .int m_fault, .int e10_.1, .int e10_.2, .int m_spot, .int m_here, .int m_token, .int m_value, .ref a_m_cuts, .ref a_m_letters, .int m_silent, .int m_greatest, .int m_moves, .int m_holders, .ref a_m_seen, .int m_seenMany, .ref a_m_pointBy, .ref a_m_isKept, .ref a_m_lanes, .ref a_m_lengths, .ref a_m_sheetCells, .int m_torn])), (a_m_readPage, .inl (k 0, 26, .inl m_readPage)), (a_m_tape, .inl (k 0, 160, .inl m_tape)), (a_m_cuts, .inl (k 0, 8, .inl m_cuts)), (a_m_letters, .inl (k 0, 37, .inl m_letters))] := hD
        refine lv_aload_n hx hb dX6_readLine_78 rfl (lv_at hl 0 rfl) ?_
        obtain ⟨o16, hv, h⟩ := zb h
        refine z_gov (w2 := [(a_m, .inr (6, [.ref a_m_state, .ref a_m_readPage, .int (m_toldOnce ||| ((1 : Int32) <<< (o1 &&& 31))), .ref a_m_tape, .int m_taped, .int m_fault, .int o16.1, .int o16.2.1, .int o16.2.2.1, .int o16.2.2.2.1, .int o16.2.2.2.2.1, .int o16.2.2.2.2.2, .ref a_m_cuts, .ref a_m_letters, .int m_silent, .int m_greatest, .int m_moves, .int m_holders, .ref a_m_seen, .int m_seenMany, .ref a_m_pointBy, .ref a_m_isKept, .ref a_m_lanes, .ref a_m_lengths, .ref a_m_sheetCells, .int m_torn])), (a_m_readPage, .inl (k 0, 26, .inl m_readPage)), (a_m_tape, .inl (k 0, 160, .inl m_tape)), (a_m_cuts, .inl (k 0, 8, .inl m_cuts)), (a_m_letters, .inl (k 0, 37, .inl m_letters))]) [0, 2] (va_runV (As := []) (rest := []) ⟨hx, hb, hml, hown, hts⟩ (c_X6_step l G k tL tM sK sV a_m a_m_state a_m_readPage a_m_tape a_m_cuts a_m_letters a_m_seen a_m_pointBy a_m_isKept a_m_lanes a_m_lengths a_m_sheetCells H.size (m_toldOnce ||| ((1 : Int32) <<< (o1 &&& 31))) m_taped m_fault e10_.1 e10_.2 m_spot m_here m_token m_value m_silent m_greatest m_moves m_holders m_seenMany m_torn m_tape o16 hv) (cwV 0 hts gX6_readLine_X6_step rfl rfl rfl (by decide +kernel) ⟨Nat.le_of_ble_eq_true rfl, Nat.le_of_ble_eq_true rfl⟩) (z_preV (wc := [(a_m, .inr (6, [.ref a_m_state, .ref a_m_readPage, .int (m_toldOnce ||| ((1 : Int32) <<< (o1 &&& 31))), .ref a_m_tape, .int m_taped, .int m_fault, .int e10_.1, .int e10_.2, .int m_spot, .int m_here, .int m_token, .int m_value, .ref a_m_cuts, .ref a_m_letters, .int m_silent, .int m_greatest, .int m_moves, .int m_holders, .ref a_m_seen, .int m_seenMany, .ref a_m_pointBy, .ref a_m_isKept, .ref a_m_lanes, .ref a_m_lengths, .ref a_m_sheetCells, .int m_torn])), (a_m_tape, .inl (k 0, 160, .inl m_tape))]) [0, 2] 0 6 hK hE hA hP hD hS (by decide) rfl rfl rfl) rfl rfl hl.1 rfl (lv_room (Nat.le_of_ble_eq_true rfl)) dX6_readLine_79 ⟨Nat.le_refl _, Nat.le_refl _⟩) hA hP hD hS rfl rfl rfl rfl (fun H locs hP hD hS => ?_)
        refine lv_aload_n hx hb dX6_readLine_82 rfl (lv_at hl 0 rfl) ?_
        refine va_get (D := G) (ci := 6) (v := .int o16.1) (C := RX6) (T := TX6) (N := 26) hx hb hts iw_X6_readLine_X6 hown hK hP 0 rfl rfl 6 (by decide) (hts (.fieldLink RX6 57 "SpireLeanModel" "broken" "I") (List.mem_of_getElem? (i := 4) rfl)) (fun _ h9 => h9) rfl dX6_readLine_83 ?_
        refine lv_if_le (tgt := 90) hx hb dX6_readLine_86 (by decide) (fun c25 => ?_) (fun c25 => ?_)
        · have h := zit c25 h
          refine lv_aload_n hx hb dX6_readLine_90 rfl (lv_at hl 0 rfl) ?_
          refine lv_iload_n hx hb dX6_readLine_91 rfl (lv_at hl 1 rfl) ?_
          obtain ⟨o17, hv, h⟩ := zb h
          refine z_gov (w2 := [(a_m, .inr (6, [.ref a_m_state, .ref a_m_readPage, .int (m_toldOnce ||| ((1 : Int32) <<< (o1 &&& 31))), .ref a_m_tape, .int m_taped, .int m_fault, .int o17.1, .int o17.2.1, .int o17.2.2.1, .int o17.2.2.2.1, .int o17.2.2.2.2.1, .int o17.2.2.2.2.2.1, .ref a_m_cuts, .ref a_m_letters, .int m_silent, .int m_greatest, .int m_moves, .int m_holders, .ref a_m_seen, .int m_seenMany, .ref a_m_pointBy, .ref a_m_isKept, .ref a_m_lanes, .ref a_m_lengths, .ref a_m_sheetCells, .int m_torn])), (a_m_readPage, .inl (k 0, 26, .inl o17.2.2.2.2.2.2)), (a_m_tape, .inl (k 0, 160, .inl m_tape)), (a_m_cuts, .inl (k 0, 8, .inl m_cuts)), (a_m_letters, .inl (k 0, 37, .inl m_letters))]) [0, 1, 2] (va_runV (As := [.int o1]) (rest := []) ⟨hx, hb, hml, hown, hts⟩ (c_X6_readMore l G k tL tM sK sV a_m a_m_state a_m_readPage a_m_tape a_m_cuts a_m_letters a_m_seen a_m_pointBy a_m_isKept a_m_lanes a_m_lengths a_m_sheetCells H.size (m_toldOnce ||| ((1 : Int32) <<< (o1 &&& 31))) m_taped m_fault o16.1 o16.2.1 o16.2.2.1 o16.2.2.2.1 o16.2.2.2.2.1 o16.2.2.2.2.2 m_silent m_greatest m_moves m_holders m_seenMany m_torn m_readPage m_tape o1 o17 hv) (cwV 1 hts gX6_readLine_X6_readMore rfl rfl rfl (by decide +kernel) ⟨Nat.le_of_ble_eq_true rfl, Nat.le_of_ble_eq_true rfl⟩) (z_preV (wc := [(a_m, .inr (6, [.ref a_m_state, .ref a_m_readPage, .int (m_toldOnce ||| ((1 : Int32) <<< (o1 &&& 31))), .ref a_m_tape, .int m_taped, .int m_fault, .int o16.1, .int o16.2.1, .int o16.2.2.1, .int o16.2.2.2.1, .int o16.2.2.2.2.1, .int o16.2.2.2.2.2, .ref a_m_cuts, .ref a_m_letters, .int m_silent, .int m_greatest, .int m_moves, .int m_holders, .ref a_m_seen, .int m_seenMany, .ref a_m_pointBy, .ref a_m_isKept, .ref a_m_lanes, .ref a_m_lengths, .ref a_m_sheetCells, .int m_torn])), (a_m_readPage, .inl (k 0, 26, .inl m_readPage)), (a_m_tape, .inl (k 0, 160, .inl m_tape))]) [0, 1, 2] 0 6 hK hE hA hP hD hS (by decide) rfl rfl rfl) rfl rfl hl.1 rfl (lv_room (Nat.le_of_ble_eq_true rfl)) dX6_readLine_92 ⟨Nat.le_refl _, Nat.le_refl _⟩) hA hP hD hS rfl rfl rfl rfl (fun H locs hP hD hS => ?_)
          refine lv_aload_n hx hb dX6_readLine_95 rfl (lv_at hl 0 rfl) ?_
          refine va_get (D := G) (ci := 6) (v := .int o17.1) (C := RX6) (T := TX6) (N := 26) hx hb hts iw_X6_readLine_X6 hown hK hP 0 rfl rfl 6 (by decide) (hts (.fieldLink RX6 57 "SpireLeanModel" "broken" "I") (List.mem_of_getElem? (i := 4) rfl)) (fun _ h9 => h9) rfl dX6_readLine_96 ?_
          obtain ⟨e18, hv, h⟩ := zb h
          have hJ19 : ∀ (e18_ : Int32 × Int32), e18_ = e18 → zW p l e (zR 4 91) s m ([.ref a_m] : List Value).toArray below meth c Q 2 A G [(a_m, .inr (6, [.ref a_m_state, .ref a_m_readPage, .int (m_toldOnce ||| ((1 : Int32) <<< (o1 &&& 31))), .ref a_m_tape, .int m_taped, .int m_fault, .int e18_.1, .int e18_.2, .int o17.2.2.1, .int o17.2.2.2.1, .int o17.2.2.2.2.1, .int o17.2.2.2.2.2.1, .ref a_m_cuts, .ref a_m_letters, .int m_silent, .int m_greatest, .int m_moves, .int m_holders, .ref a_m_seen, .int m_seenMany, .ref a_m_pointBy, .ref a_m_isKept, .ref a_m_lanes, .ref a_m_lengths, .ref a_m_sheetCells, .int m_torn])), (a_m_readPage, .inl (k 0, 26, .inl o17.2.2.2.2.2.2)), (a_m_tape, .inl (k 0, 160, .inl m_tape)), (a_m_cuts, .inl (k 0, 8, .inl m_cuts)), (a_m_letters, .inl (k 0, 37, .inl m_letters))] [(0, .ref a_m)] 115 [] := by
            intro e18_ hz
            subst hz
            intro H locs ls hP hD hS hl
            refine lv_aload_n hx hb dX6_readLine_115 rfl (lv_at hl 0 rfl) ?_
            obtain ⟨o24, hv, h⟩ := zb h
            refine z_gov (w2 := [(a_m, .inr (6, [.ref a_m_state, .ref a_m_readPage, .int (m_toldOnce ||| ((1 : Int32) <<< (o1 &&& 31))), .ref a_m_tape, .int m_taped, .int m_fault, .int o24.1, .int o24.2.1, .int o24.2.2.1, .int o24.2.2.2.1, .int o24.2.2.2.2.1, .int o24.2.2.2.2.2, .ref a_m_cuts, .ref a_m_letters, .int m_silent, .int m_greatest, .int m_moves, .int m_holders, .ref a_m_seen, .int m_seenMany, .ref a_m_pointBy, .ref a_m_isKept, .ref a_m_lanes, .ref a_m_lengths, .ref a_m_sheetCells, .int m_torn])), (a_m_readPage, .inl (k 0, 26, .inl o17.2.2.2.2.2.2)), (a_m_tape, .inl (k 0, 160, .inl m_tape)), (a_m_cuts, .inl (k 0, 8, .inl m_cuts)), (a_m_letters, .inl (k 0, 37, .inl m_letters))]) [0, 2] (va_runV (As := []) (rest := []) ⟨hx, hb, hml, hown, hts⟩ (c_X6_step l G k tL tM sK sV a_m a_m_state a_m_readPage a_m_tape a_m_cuts a_m_letters a_m_seen a_m_pointBy a_m_isKept a_m_lanes a_m_lengths a_m_sheetCells H.size (m_toldOnce ||| ((1 : Int32) <<< (o1 &&& 31))) m_taped m_fault e18_.1 e18_.2 o17.2.2.1 o17.2.2.2.1 o17.2.2.2.2.1 o17.2.2.2.2.2.1 m_silent m_greatest m_moves m_holders m_seenMany m_torn m_tape o24 hv) (cwV 0 hts gX6_readLine_X6_step rfl rfl rfl (by decide +kernel) ⟨Nat.le_of_ble_eq_true rfl, Nat.le_of_ble_eq_true rfl⟩) (z_preV (wc := [(a_m, .inr (6, [.ref a_m_state, .ref a_m_readPage, .int (m_toldOnce ||| ((1 : Int32) <<< (o1 &&& 31))), .ref a_m_tape, .int m_taped, .int m_fault, .int e18_.1, .int e18_.2, .int o17.2.2.1, .int o17.2.2.2.1, .int o17.2.2.2.2.1, .int o17.2.2.2.2.2.1, .ref a_m_cuts, .ref a_m_letters, .int m_silent, .int m_greatest, .int m_moves, .int m_holders, .ref a_m_seen, .int m_seenMany, .ref a_m_pointBy, .ref a_m_isKept, .ref a_m_lanes, .ref a_m_lengths, .ref a_m_sheetCells, .int m_torn])), (a_m_tape, .inl (k 0, 160, .inl m_tape))]) [0, 2] 0 6 hK hE hA hP hD hS (by decide) rfl rfl rfl) rfl rfl hl.1 rfl (lv_room (Nat.le_of_ble_eq_true rfl)) dX6_readLine_116 ⟨Nat.le_refl _, Nat.le_refl _⟩) hA hP hD hS rfl rfl rfl rfl (fun H locs hP hD hS => ?_)
            have hr := (zs h)
            subst hr
            exact hret H locs ls 119 hP hS dX6_readLine_119
          clear h
          have h := hv
          refine lv_if_ne (tgt := 115) hx hb dX6_readLine_99 (by decide) (fun c23 => ?_) (fun c23 => ?_)
          · have h := zif c23 h
            exact hJ19 _ (zs h) H locs ls hP hD hS (lv_sub hl [0] rfl)
          · have h := zit c23 h
            refine lv_aload_n hx hb dX6_readLine_102 rfl (lv_at hl 0 rfl) ?_
            refine va_get (D := G) (ci := 6) (v := .int o17.2.2.2.2.1) (C := RX6) (T := TX6) (N := 26) hx hb hts iw_X6_readLine_X6 hown hK hP 0 rfl rfl 10 (by decide) (hts (.fieldLink RX6 66 "SpireLeanModel" "token" "I") (List.mem_of_getElem? (i := 5) rfl)) (fun _ h9 => h9) rfl dX6_readLine_103 ?_
            refine lv_iconst (v := 3) hx hb dX6_readLine_106 (by decide) ?_
            refine lv_icmp_eq (tgt := 115) hx hb dX6_readLine_107 (by decide) (fun c22 => ?_) (fun c22 => ?_)
            · have h := zit c22 h
              exact hJ19 _ (zs h) H locs ls hP hD hS (lv_sub hl [0] rfl)
            · have h := zif c22 h
              refine lv_aload_n hx hb dX6_readLine_110 rfl (lv_at hl 0 rfl) ?_
              refine lv_iconst (v := 2) hx hb dX6_readLine_111 (by decide) ?_
              obtain ⟨o21, hv, h⟩ := zb h
              refine z_gov (w2 := [(a_m, .inr (6, [.ref a_m_state, .ref a_m_readPage, .int (m_toldOnce ||| ((1 : Int32) <<< (o1 &&& 31))), .ref a_m_tape, .int m_taped, .int m_fault, .int o21.1, .int o21.2, .int o17.2.2.1, .int o17.2.2.2.1, .int o17.2.2.2.2.1, .int o17.2.2.2.2.2.1, .ref a_m_cuts, .ref a_m_letters, .int m_silent, .int m_greatest, .int m_moves, .int m_holders, .ref a_m_seen, .int m_seenMany, .ref a_m_pointBy, .ref a_m_isKept, .ref a_m_lanes, .ref a_m_lengths, .ref a_m_sheetCells, .int m_torn])), (a_m_readPage, .inl (k 0, 26, .inl o17.2.2.2.2.2.2)), (a_m_tape, .inl (k 0, 160, .inl m_tape)), (a_m_cuts, .inl (k 0, 8, .inl m_cuts)), (a_m_letters, .inl (k 0, 37, .inl m_letters))]) [0] (va_runV (As := [.int (2 : Int32)]) (rest := []) ⟨hx, hb, hml, hown, hts⟩ (c_X6_fails l G k tL tM sK sV a_m a_m_state a_m_readPage a_m_tape a_m_cuts a_m_letters a_m_seen a_m_pointBy a_m_isKept a_m_lanes a_m_lengths a_m_sheetCells H.size (m_toldOnce ||| ((1 : Int32) <<< (o1 &&& 31))) m_taped m_fault o17.1 o17.2.1 o17.2.2.1 o17.2.2.2.1 o17.2.2.2.2.1 o17.2.2.2.2.2.1 m_silent m_greatest m_moves m_holders m_seenMany m_torn (2 : Int32) o21 hv) (cwV 1 hts gX6_readLine_X6_fails rfl rfl rfl (by decide +kernel) ⟨Nat.le_of_ble_eq_true rfl, Nat.le_of_ble_eq_true rfl⟩) (z_preV (wc := [(a_m, .inr (6, [.ref a_m_state, .ref a_m_readPage, .int (m_toldOnce ||| ((1 : Int32) <<< (o1 &&& 31))), .ref a_m_tape, .int m_taped, .int m_fault, .int o17.1, .int o17.2.1, .int o17.2.2.1, .int o17.2.2.2.1, .int o17.2.2.2.2.1, .int o17.2.2.2.2.2.1, .ref a_m_cuts, .ref a_m_letters, .int m_silent, .int m_greatest, .int m_moves, .int m_holders, .ref a_m_seen, .int m_seenMany, .ref a_m_pointBy, .ref a_m_isKept, .ref a_m_lanes, .ref a_m_lengths, .ref a_m_sheetCells, .int m_torn]))]) [0] 0 6 hK hE hA hP hD hS (by decide) rfl rfl rfl) rfl rfl hl.1 rfl (lv_room (Nat.le_of_ble_eq_true rfl)) dX6_readLine_112 ⟨Nat.le_refl _, Nat.le_refl _⟩) hA hP hD hS rfl rfl rfl rfl (fun H locs hP hD hS => ?_)
              exact hJ19 _ (zs h) H locs ls hP hD hS (lv_sub hl [0] rfl)
        · have h := zif c25 h
          have hr := (zs h)
          subst hr
          exact hret H locs ls 89 hP hS dX6_readLine_89
      clear h
      have h := hv
      refine lv_icmp_lt (tgt := 66) hx hb dX6_readLine_46 (by decide) (fun c15 => ?_) (fun c15 => ?_)
      · have h := zit c15 h
        exact hJ11 _ (zs h) H locs ls hP hD hS (lv_sub hl [0, 1] rfl)
      · have h := zif c15 h
        refine lv_aload_n hx hb dX6_readLine_49 rfl (lv_at hl 0 rfl) ?_
        refine va_get (D := G) (ci := 6) (v := .int m_toldOnce) (C := RX6) (T := TX6) (N := 26) hx hb hts iw_X6_readLine_X6 hown hK hP 0 rfl rfl 2 (by decide) (hts (.fieldLink RX6 104 "SpireLeanModel" "toldOnce" "I") (List.mem_of_getElem? (i := 3) rfl)) (fun _ h9 => h9) rfl dX6_readLine_50 ?_
        refine lv_iload_n hx hb dX6_readLine_53 rfl (lv_at hl 1 rfl) ?_
        refine lv_ishr hx hb dX6_readLine_54 ?_
        refine lv_iconst (v := 1) hx hb dX6_readLine_55 (by decide) ?_
        refine lv_iand hx hb dX6_readLine_56 ?_
        refine lv_iconst (v := 1) hx hb dX6_readLine_57 (by decide) ?_
        refine lv_icmp_ne (tgt := 66) hx hb dX6_readLine_58 (by decide) (fun c14 => ?_) (fun c14 => ?_)
        · have h := zif c14 h
          exact hJ11 _ (zs h) H locs ls hP hD hS (lv_sub hl [0, 1] rfl)
        · have h := zit c14 h
          refine lv_aload_n hx hb dX6_readLine_61 rfl (lv_at hl 0 rfl) ?_
          refine lv_iconst (v := 4) hx hb dX6_readLine_62 (by decide) ?_
          obtain ⟨o13, hv, h⟩ := zb h
          refine z_gov (w2 := [(a_m, .inr (6, [.ref a_m_state, .ref a_m_readPage, .int m_toldOnce, .ref a_m_tape, .int m_taped, .int m_fault, .int o13.1, .int o13.2, .int m_spot, .int m_here, .int m_token, .int m_value, .ref a_m_cuts, .ref a_m_letters, .int m_silent, .int m_greatest, .int m_moves, .int m_holders, .ref a_m_seen, .int m_seenMany, .ref a_m_pointBy, .ref a_m_isKept, .ref a_m_lanes, .ref a_m_lengths, .ref a_m_sheetCells, .int m_torn])), (a_m_readPage, .inl (k 0, 26, .inl m_readPage)), (a_m_tape, .inl (k 0, 160, .inl m_tape)), (a_m_cuts, .inl (k 0, 8, .inl m_cuts)), (a_m_letters, .inl (k 0, 37, .inl m_letters))]) [0] (va_runV (As := [.int (4 : Int32)]) (rest := []) ⟨hx, hb, hml, hown, hts⟩ (c_X6_fails l G k tL tM sK sV a_m a_m_state a_m_readPage a_m_tape a_m_cuts a_m_letters a_m_seen a_m_pointBy a_m_isKept a_m_lanes a_m_lengths a_m_sheetCells H.size m_toldOnce m_taped m_fault e3_.1 e3_.2 m_spot m_here m_token m_value m_silent m_greatest m_moves m_holders m_seenMany m_torn (4 : Int32) o13 hv) (cwV 1 hts gX6_readLine_X6_fails rfl rfl rfl (by decide +kernel) ⟨Nat.le_of_ble_eq_true rfl, Nat.le_of_ble_eq_true rfl⟩) (z_preV (wc := [(a_m, .inr (6, [.ref a_m_state, .ref a_m_readPage, .int m_toldOnce, .ref a_m_tape, .int m_taped, .int m_fault, .int e3_.1, .int e3_.2, .int m_spot, .int m_here, .int m_token, .int m_value, .ref a_m_cuts, .ref a_m_letters, .int m_silent, .int m_greatest, .int m_moves, .int m_holders, .ref a_m_seen, .int m_seenMany, .ref a_m_pointBy, .ref a_m_isKept, .ref a_m_lanes, .ref a_m_lengths, .ref a_m_sheetCells, .int m_torn]))]) [0] 0 6 hK hE hA hP hD hS (by decide) rfl rfl rfl) rfl rfl hl.1 rfl (lv_room (Nat.le_of_ble_eq_true rfl)) dX6_readLine_63 ⟨Nat.le_refl _, Nat.le_refl _⟩) hA hP hD hS rfl rfl rfl rfl (fun H locs hP hD hS => ?_)
          exact hJ11 _ (zs h) H locs ls hP hD hS (lv_sub hl [0, 1] rfl)
    clear h
    have h := hv
    refine lv_icmp_gt (tgt := 44) hx hb dX6_readLine_25 (by decide) (fun c9 => ?_) (fun c9 => ?_)
    · have h := zit c9 h
      exact hJ4 _ (zs h) H locs ls hP hD hS (lv_sub hl [1, 0] rfl)
    · have h := zif c9 h
      refine lv_aload_n hx hb dX6_readLine_28 rfl (lv_at hl 1 rfl) ?_
      refine va_get (D := G) (ci := 6) (v := .ref a_m_readPage) (C := RX6) (T := TX6) (N := 26) hx hb hts iw_X6_readLine_X6 hown hK hP 0 rfl rfl 1 (by decide) (hts (.fieldLink RX6 13 "SpireLeanModel" "readPage" "[I") (List.mem_of_getElem? (i := 2) rfl)) (fun _ h9 => h9) rfl dX6_readLine_29 ?_
      refine lv_bipush (v := 20) hx hb dX6_readLine_32 (by decide) ?_
      obtain ⟨v6, hv, h⟩ := zb h
      refine z_iald hx hb hK hP 1 0 rfl rfl hv dX6_readLine_34 ?_
      refine lv_iconst (v := 5) hx hb dX6_readLine_35 (by decide) ?_
      refine lv_icmp_ne (tgt := 44) hx hb dX6_readLine_36 (by decide) (fun c8 => ?_) (fun c8 => ?_)
      · have h := zif c8 h
        exact hJ4 _ (zs h) H locs ls hP hD hS (lv_sub hl [1, 0] rfl)
      · have h := zit c8 h
        refine lv_aload_n hx hb dX6_readLine_39 rfl (lv_at hl 1 rfl) ?_
        refine lv_iconst (v := 5) hx hb dX6_readLine_40 (by decide) ?_
        obtain ⟨o7, hv, h⟩ := zb h
        refine z_gov (w2 := [(a_m, .inr (6, [.ref a_m_state, .ref a_m_readPage, .int m_toldOnce, .ref a_m_tape, .int m_taped, .int m_fault, .int o7.1, .int o7.2, .int m_spot, .int m_here, .int m_token, .int m_value, .ref a_m_cuts, .ref a_m_letters, .int m_silent, .int m_greatest, .int m_moves, .int m_holders, .ref a_m_seen, .int m_seenMany, .ref a_m_pointBy, .ref a_m_isKept, .ref a_m_lanes, .ref a_m_lengths, .ref a_m_sheetCells, .int m_torn])), (a_m_readPage, .inl (k 0, 26, .inl m_readPage)), (a_m_tape, .inl (k 0, 160, .inl m_tape)), (a_m_cuts, .inl (k 0, 8, .inl m_cuts)), (a_m_letters, .inl (k 0, 37, .inl m_letters))]) [0] (va_runV (As := [.int (5 : Int32)]) (rest := []) ⟨hx, hb, hml, hown, hts⟩ (c_X6_fails l G k tL tM sK sV a_m a_m_state a_m_readPage a_m_tape a_m_cuts a_m_letters a_m_seen a_m_pointBy a_m_isKept a_m_lanes a_m_lengths a_m_sheetCells H.size m_toldOnce m_taped m_fault m_broken m_brokenAt m_spot m_here m_token m_value m_silent m_greatest m_moves m_holders m_seenMany m_torn (5 : Int32) o7 hv) (cwV 1 hts gX6_readLine_X6_fails rfl rfl rfl (by decide +kernel) ⟨Nat.le_of_ble_eq_true rfl, Nat.le_of_ble_eq_true rfl⟩) (z_preV (wc := [(a_m, .inr (6, [.ref a_m_state, .ref a_m_readPage, .int m_toldOnce, .ref a_m_tape, .int m_taped, .int m_fault, .int m_broken, .int m_brokenAt, .int m_spot, .int m_here, .int m_token, .int m_value, .ref a_m_cuts, .ref a_m_letters, .int m_silent, .int m_greatest, .int m_moves, .int m_holders, .ref a_m_seen, .int m_seenMany, .ref a_m_pointBy, .ref a_m_isKept, .ref a_m_lanes, .ref a_m_lengths, .ref a_m_sheetCells, .int m_torn]))]) [0] 0 6 hK hE hA hP hD hS (by decide) rfl rfl rfl) rfl rfl hl.1 rfl (lv_room (Nat.le_of_ble_eq_true rfl)) dX6_readLine_41 ⟨Nat.le_refl _, Nat.le_refl _⟩) hA hP hD hS rfl rfl rfl rfl (fun H locs hP hD hS => ?_)
        exact hJ4 _ (zs h) H locs ls hP hD hS (lv_sub hl [1, 0] rfl)
  · have h := zit c27 h
    refine lv_aload_n hx hb dX6_readLine_17 rfl (lv_at hl 1 rfl) ?_
    refine lv_iconst (v := 2) hx hb dX6_readLine_18 (by decide) ?_
    obtain ⟨o26, hv, h⟩ := zb h
    refine z_gov (w2 := [(a_m, .inr (6, [.ref a_m_state, .ref a_m_readPage, .int m_toldOnce, .ref a_m_tape, .int m_taped, .int m_fault, .int o26.1, .int o26.2, .int m_spot, .int m_here, .int m_token, .int m_value, .ref a_m_cuts, .ref a_m_letters, .int m_silent, .int m_greatest, .int m_moves, .int m_holders, .ref a_m_seen, .int m_seenMany, .ref a_m_pointBy, .ref a_m_isKept, .ref a_m_lanes, .ref a_m_lengths, .ref a_m_sheetCells, .int m_torn])), (a_m_readPage, .inl (k 0, 26, .inl m_readPage)), (a_m_tape, .inl (k 0, 160, .inl m_tape)), (a_m_cuts, .inl (k 0, 8, .inl m_cuts)), (a_m_letters, .inl (k 0, 37, .inl m_letters))]) [0] (va_runV (As := [.int (2 : Int32)]) (rest := []) ⟨hx, hb, hml, hown, hts⟩ (c_X6_fails l G k tL tM sK sV a_m a_m_state a_m_readPage a_m_tape a_m_cuts a_m_letters a_m_seen a_m_pointBy a_m_isKept a_m_lanes a_m_lengths a_m_sheetCells H.size m_toldOnce m_taped m_fault m_broken m_brokenAt m_spot m_here m_token m_value m_silent m_greatest m_moves m_holders m_seenMany m_torn (2 : Int32) o26 hv) (cwV 1 hts gX6_readLine_X6_fails rfl rfl rfl (by decide +kernel) ⟨Nat.le_of_ble_eq_true rfl, Nat.le_of_ble_eq_true rfl⟩) (z_preV (wc := [(a_m, .inr (6, [.ref a_m_state, .ref a_m_readPage, .int m_toldOnce, .ref a_m_tape, .int m_taped, .int m_fault, .int m_broken, .int m_brokenAt, .int m_spot, .int m_here, .int m_token, .int m_value, .ref a_m_cuts, .ref a_m_letters, .int m_silent, .int m_greatest, .int m_moves, .int m_holders, .ref a_m_seen, .int m_seenMany, .ref a_m_pointBy, .ref a_m_isKept, .ref a_m_lanes, .ref a_m_lengths, .ref a_m_sheetCells, .int m_torn]))]) [0] 0 6 hK hE hA hP hD hS (by decide) rfl rfl rfl) rfl rfl hl.1 rfl (lv_room (Nat.le_of_ble_eq_true rfl)) dX6_readLine_19 ⟨Nat.le_refl _, Nat.le_refl _⟩) hA hP hD hS rfl rfl rfl rfl (fun H locs hP hD hS => ?_)
    have hr := (zs h)
    subst hr
    exact hret H locs ls 22 hP hS dX6_readLine_22
theorem iw_X6_text_X6 : ∀ w ∈ wsX60, w ∈ wsX6_text := fun _ h => List.mem_cons_of_mem _ (List.mem_append_right _ h)
set_option maxHeartbeats 4000000 in
set_option maxRecDepth 100000 in
theorem c_X6_text (l : Launch) (G : va_G) (k : Nat → ClassId) (tL tM : Nat) (sK sV : Nat → Nat) (a_m : Nat) (a_m_state : Nat) (a_m_readPage : Nat) (a_m_tape : Nat) (a_m_cuts : Nat) (a_m_letters : Nat) (a_m_seen : Nat) (a_m_pointBy : Nat) (a_m_isKept : Nat) (a_m_lanes : Nat) (a_m_lengths : Nat) (a_m_sheetCells : Nat) (sz : Nat) (m_toldOnce : Int32) (m_taped : Int32) (m_fault : Int32) (m_broken : Int32) (m_brokenAt : Int32) (m_spot : Int32) (m_here : Int32) (m_token : Int32) (m_value : Int32) (m_silent : Int32) (m_greatest : Int32) (m_moves : Int32) (m_holders : Int32) (m_seenMany : Int32) (m_torn : Int32) (m_state : Nat → Int32) (m_readPage : Nat → Int32) (m_tape : Nat → Int32) (m_cuts : Nat → Int32) (m_letters : Nat → Int32) (m_isKept : Nat → Int32) (out : Int32 × Int32 × Int32 × Int32 × Int32 × Int32 × Int32 × Int32 × Int32 × Int32 × Int32 × (Nat → Int32) × (Nat → Int32) × (Nat → Int32)) (h : p_X6_text m_taped m_brokenAt m_here m_token m_value m_seenMany m_state m_readPage m_tape m_cuts m_letters m_isKept = some out) : zMi l yX6_text wsX6_text 5 112 G k tL tM sK sV [.ref a_m] [(a_m, .inr (6, [.ref a_m_state, .ref a_m_readPage, .int m_toldOnce, .ref a_m_tape, .int m_taped, .int m_fault, .int m_broken, .int m_brokenAt, .int m_spot, .int m_here, .int m_token, .int m_value, .ref a_m_cuts, .ref a_m_letters, .int m_silent, .int m_greatest, .int m_moves, .int m_holders, .ref a_m_seen, .int m_seenMany, .ref a_m_pointBy, .ref a_m_isKept, .ref a_m_lanes, .ref a_m_lengths, .ref a_m_sheetCells, .int m_torn])), (a_m_state, .inl (k 0, 156, .inl m_state)), (a_m_readPage, .inl (k 0, 26, .inl m_readPage)), (a_m_tape, .inl (k 0, 160, .inl m_tape)), (a_m_cuts, .inl (k 0, 8, .inl m_cuts)), (a_m_letters, .inl (k 0, 37, .inl m_letters)), (a_m_isKept, .inl (k 3, 2, .inl m_isKept))] [(a_m, .inr (6, [.ref a_m_state, .ref a_m_readPage, .int out.2.1, .ref a_m_tape, .int out.2.2.1, .int out.2.2.2.1, .int out.2.2.2.2.1, .int out.2.2.2.2.2.1, .int out.2.2.2.2.2.2.1, .int out.2.2.2.2.2.2.2.1, .int out.2.2.2.2.2.2.2.2.1, .int out.2.2.2.2.2.2.2.2.2.1, .ref a_m_cuts, .ref a_m_letters, .int m_silent, .int m_greatest, .int m_moves, .int m_holders, .ref a_m_seen, .int out.2.2.2.2.2.2.2.2.2.2.1, .ref a_m_pointBy, .ref a_m_isKept, .ref a_m_lanes, .ref a_m_lengths, .ref a_m_sheetCells, .int m_torn])), (a_m_state, .inl (k 0, 156, .inl out.2.2.2.2.2.2.2.2.2.2.2.1)), (a_m_readPage, .inl (k 0, 26, .inl out.2.2.2.2.2.2.2.2.2.2.2.2.1)), (a_m_tape, .inl (k 0, 160, .inl m_tape)), (a_m_cuts, .inl (k 0, 8, .inl m_cuts)), (a_m_letters, .inl (k 0, 37, .inl m_letters)), (a_m_isKept, .inl (k 3, 2, .inl out.2.2.2.2.2.2.2.2.2.2.2.2.2))] out.1 sz := by
  refine z_meti (cc := cX6_text) (maxL := 3) (by decide) rfl (Nat.le_of_ble_eq_true rfl) ?_
  intro p e s m below meth c A Q H locs ls hx hb hml hts hown hA hK hE hret hP hD hS hl
  have hown : s.vm.findClass RX6 = some m.cls := hown
  have hl : lv_has ls 3 [(0, .ref a_m)] := hl
  unfold p_X6_text at h
  refine lv_aload_n hx hb dX6_text_0 rfl (lv_at hl 0 rfl) ?_
  refine lv_iconst (v := 0) hx hb dX6_text_1 (by decide) ?_
  refine va_put (D := G) (ci := 6) (v := .int (0 : Int32)) (ty := .int) (C := RX6) (T := TX6) (N := 26) hx hb hts iw_X6_text_X6 tyX6 tyX6_ok nmX6 hown hK hP hD hS 0 rfl rfl 6 (by decide) (hts (.fieldLink RX6 57 "SpireLeanModel" "broken" "I") (List.mem_of_getElem? (i := 1) rfl)) (fun _ h9 => h9) rfl (tyX6_ok 6 (by decide)) rfl rfl (Nat.le_of_ble_eq_true rfl) dX6_text_2 (fun H locs hP hD hS => ?_)
  have hP : va_P G vwCl [(a_m, .inr (6, [.ref a_m_state, .ref a_m_readPage, .int m_toldOnce, .ref a_m_tape, .int m_taped, .int m_fault, .int (0 : Int32), .int m_brokenAt, .int m_spot, .int m_here, .int m_token, .int m_value, .ref a_m_cuts, .ref a_m_letters, .int m_silent, .int m_greatest, .int m_moves, .int m_holders, .ref a_m_seen, .int m_seenMany, .ref a_m_pointBy, .ref a_m_isKept, .ref a_m_lanes, .ref a_m_lengths, .ref a_m_sheetCells, .int m_torn])), (a_m_state, .inl (k 0, 156, .inl m_state)), (a_m_readPage, .inl (k 0, 26, .inl m_readPage)), (a_m_tape, .inl (k 0, 160, .inl m_tape)), (a_m_cuts, .inl (k 0, 8, .inl m_cuts)), (a_m_letters, .inl (k 0, 37, .inl m_letters)), (a_m_isKept, .inl (k 3, 2, .inl m_isKept))] H := hP
  have hD : va_D A [(a_m, .inr (6, [.ref a_m_state, .ref a_m_readPage, .int m_toldOnce, .ref a_m_tape, .int m_taped, .int m_fault, .int (0 : Int32), .int m_brokenAt, .int m_spot, .int m_here, .int m_token, .int m_value, .ref a_m_cuts, .ref a_m_letters, .int m_silent, .int m_greatest, .int m_moves, .int m_holders, .ref a_m_seen, .int m_seenMany, .ref a_m_pointBy, .ref a_m_isKept, .ref a_m_lanes, .ref a_m_lengths, .ref a_m_sheetCells, .int m_torn])), (a_m_state, .inl (k 0, 156, .inl m_state)), (a_m_readPage, .inl (k 0, 26, .inl m_readPage)), (a_m_tape, .inl (k 0, 160, .inl m_tape)), (a_m_cuts, .inl (k 0, 8, .inl m_cuts)), (a_m_letters, .inl (k 0, 37, .inl m_letters)), (a_m_isKept, .inl (k 3, 2, .inl m_isKept))] := hD
  refine lv_aload_n hx hb dX6_text_5 rfl (lv_at hl 0 rfl) ?_
  refine lv_iconst (v := 0) hx hb dX6_text_6 (by decide) ?_
  refine va_put (D := G) (ci := 6) (v := .int (0 : Int32)) (ty := .int) (C := RX6) (T := TX6) (N := 26) hx hb hts iw_X6_text_X6 tyX6 tyX6_ok nmX6 hown hK hP hD hS 0 rfl rfl 8 (by decide) (hts (.fieldLink RX6 69 "SpireLeanModel" "spot" "I") (List.mem_of_getElem? (i := 2) rfl)) (fun _ h9 => h9) rfl (tyX6_ok 8 (by decide)) rfl rfl (Nat.le_of_ble_eq_true rfl) dX6_text_7 (fun H locs hP hD hS => ?_)
  have hP : va_P G vwCl [(a_m, .inr (6, [.ref a_m_state, .ref a_m_readPage, .int m_toldOnce, .ref a_m_tape, .int m_taped, .int m_fault, .int (0 : Int32), .int m_brokenAt, .int (0 : Int32), .int m_here, .int m_token, .int m_value, .ref a_m_cuts, .ref a_m_letters, .int m_silent, .int m_greatest, .int m_moves, .int m_holders, .ref a_m_seen, .int m_seenMany, .ref a_m_pointBy, .ref a_m_isKept, .ref a_m_lanes, .ref a_m_lengths, .ref a_m_sheetCells, .int m_torn])), (a_m_state, .inl (k 0, 156, .inl m_state)), (a_m_readPage, .inl (k 0, 26, .inl m_readPage)), (a_m_tape, .inl (k 0, 160, .inl m_tape)), (a_m_cuts, .inl (k 0, 8, .inl m_cuts)), (a_m_letters, .inl (k 0, 37, .inl m_letters)), (a_m_isKept, .inl (k 3, 2, .inl m_isKept))] H := hP
  have hD : va_D A [(a_m, .inr (6, [.ref a_m_state, .ref a_m_readPage, .int m_toldOnce, .ref a_m_tape, .int m_taped, .int m_fault, .int (0 : Int32), .int m_brokenAt, .int (0 : Int32), .int m_here, .int m_token, .int m_value, .ref a_m_cuts, .ref a_m_letters, .int m_silent, .int m_greatest, .int m_moves, .int m_holders, .ref a_m_seen, .int m_seenMany, .ref a_m_pointBy, .ref a_m_isKept, .ref a_m_lanes, .ref a_m_lengths, .ref a_m_sheetCells, .int m_torn])), (a_m_state, .inl (k 0, 156, .inl m_state)), (a_m_readPage, .inl (k 0, 26, .inl m_readPage)), (a_m_tape, .inl (k 0, 160, .inl m_tape)), (a_m_cuts, .inl (k 0, 8, .inl m_cuts)), (a_m_letters, .inl (k 0, 37, .inl m_letters)), (a_m_isKept, .inl (k 3, 2, .inl m_isKept))] := hD
  refine lv_aload_n hx hb dX6_text_10 rfl (lv_at hl 0 rfl) ?_
  refine lv_iconst (v := 0) hx hb dX6_text_11 (by decide) ?_
  refine va_put (D := G) (ci := 6) (v := .int (0 : Int32)) (ty := .int) (C := RX6) (T := TX6) (N := 26) hx hb hts iw_X6_text_X6 tyX6 tyX6_ok nmX6 hown hK hP hD hS 0 rfl rfl 2 (by decide) (hts (.fieldLink RX6 104 "SpireLeanModel" "toldOnce" "I") (List.mem_of_getElem? (i := 3) rfl)) (fun _ h9 => h9) rfl (tyX6_ok 2 (by decide)) rfl rfl (Nat.le_of_ble_eq_true rfl) dX6_text_12 (fun H locs hP hD hS => ?_)
  have hP : va_P G vwCl [(a_m, .inr (6, [.ref a_m_state, .ref a_m_readPage, .int (0 : Int32), .ref a_m_tape, .int m_taped, .int m_fault, .int (0 : Int32), .int m_brokenAt, .int (0 : Int32), .int m_here, .int m_token, .int m_value, .ref a_m_cuts, .ref a_m_letters, .int m_silent, .int m_greatest, .int m_moves, .int m_holders, .ref a_m_seen, .int m_seenMany, .ref a_m_pointBy, .ref a_m_isKept, .ref a_m_lanes, .ref a_m_lengths, .ref a_m_sheetCells, .int m_torn])), (a_m_state, .inl (k 0, 156, .inl m_state)), (a_m_readPage, .inl (k 0, 26, .inl m_readPage)), (a_m_tape, .inl (k 0, 160, .inl m_tape)), (a_m_cuts, .inl (k 0, 8, .inl m_cuts)), (a_m_letters, .inl (k 0, 37, .inl m_letters)), (a_m_isKept, .inl (k 3, 2, .inl m_isKept))] H := hP
  have hD : va_D A [(a_m, .inr (6, [.ref a_m_state, .ref a_m_readPage, .int (0 : Int32), .ref a_m_tape, .int m_taped, .int m_fault, .int (0 : Int32), .int m_brokenAt, .int (0 : Int32), .int m_here, .int m_token, .int m_value, .ref a_m_cuts, .ref a_m_letters, .int m_silent, .int m_greatest, .int m_moves, .int m_holders, .ref a_m_seen, .int m_seenMany, .ref a_m_pointBy, .ref a_m_isKept, .ref a_m_lanes, .ref a_m_lengths, .ref a_m_sheetCells, .int m_torn])), (a_m_state, .inl (k 0, 156, .inl m_state)), (a_m_readPage, .inl (k 0, 26, .inl m_readPage)), (a_m_tape, .inl (k 0, 160, .inl m_tape)), (a_m_cuts, .inl (k 0, 8, .inl m_cuts)), (a_m_letters, .inl (k 0, 37, .inl m_letters)), (a_m_isKept, .inl (k 3, 2, .inl m_isKept))] := hD
  refine lv_iconst (v := 0) hx hb dX6_text_15 (by decide) ?_
  refine lv_istore_n (lv' := [(1, .int (0 : Int32)), (0, .ref a_m)]) hx hb dX6_text_16 rfl hl (by decide) rfl (fun ls hl => ?_)
  refine lv_iconst (v := 0) hx hb dX6_text_17 (by decide) ?_
  refine lv_istore_n (lv' := [(2, .int (0 : Int32)), (1, .int (0 : Int32)), (0, .ref a_m)]) hx hb dX6_text_18 rfl hl (by decide) rfl (fun ls hl => ?_)
  obtain ⟨e5, hv, h⟩ := zb h
  have hJ4 : ∀ (e5_ : (Nat → Int32)), e5_ = e5 → zW p l e (zR 5 112) s m ([.ref a_m] : List Value).toArray below meth c Q 3 A G [(a_m, .inr (6, [.ref a_m_state, .ref a_m_readPage, .int (0 : Int32), .ref a_m_tape, .int m_taped, .int m_fault, .int (0 : Int32), .int m_brokenAt, .int (0 : Int32), .int m_here, .int m_token, .int m_value, .ref a_m_cuts, .ref a_m_letters, .int m_silent, .int m_greatest, .int m_moves, .int m_holders, .ref a_m_seen, .int m_seenMany, .ref a_m_pointBy, .ref a_m_isKept, .ref a_m_lanes, .ref a_m_lengths, .ref a_m_sheetCells, .int m_torn])), (a_m_state, .inl (k 0, 156, .inl m_state)), (a_m_readPage, .inl (k 0, 26, .inl e5_)), (a_m_tape, .inl (k 0, 160, .inl m_tape)), (a_m_cuts, .inl (k 0, 8, .inl m_cuts)), (a_m_letters, .inl (k 0, 37, .inl m_letters)), (a_m_isKept, .inl (k 3, 2, .inl m_isKept))] [(0, .ref a_m), (1, .int (0 : Int32))] 38 [] := by
    intro e5_ hz
    subst hz
    intro H locs ls hP hD hS hl
    refine lv_aload_n hx hb dX6_text_38 rfl (lv_at hl 0 rfl) ?_
    obtain ⟨o9, hv, h⟩ := zb h
    refine z_gov (w2 := [(a_m, .inr (6, [.ref a_m_state, .ref a_m_readPage, .int (0 : Int32), .ref a_m_tape, .int m_taped, .int m_fault, .int o9.1, .int o9.2.1, .int o9.2.2.1, .int o9.2.2.2.1, .int o9.2.2.2.2.1, .int o9.2.2.2.2.2, .ref a_m_cuts, .ref a_m_letters, .int m_silent, .int m_greatest, .int m_moves, .int m_holders, .ref a_m_seen, .int m_seenMany, .ref a_m_pointBy, .ref a_m_isKept, .ref a_m_lanes, .ref a_m_lengths, .ref a_m_sheetCells, .int m_torn])), (a_m_state, .inl (k 0, 156, .inl m_state)), (a_m_readPage, .inl (k 0, 26, .inl e5_)), (a_m_tape, .inl (k 0, 160, .inl m_tape)), (a_m_cuts, .inl (k 0, 8, .inl m_cuts)), (a_m_letters, .inl (k 0, 37, .inl m_letters)), (a_m_isKept, .inl (k 3, 2, .inl m_isKept))]) [0, 3] (va_runV (As := []) (rest := []) ⟨hx, hb, hml, hown, hts⟩ (c_X6_step l G k tL tM sK sV a_m a_m_state a_m_readPage a_m_tape a_m_cuts a_m_letters a_m_seen a_m_pointBy a_m_isKept a_m_lanes a_m_lengths a_m_sheetCells H.size (0 : Int32) m_taped m_fault (0 : Int32) m_brokenAt (0 : Int32) m_here m_token m_value m_silent m_greatest m_moves m_holders m_seenMany m_torn m_tape o9 hv) (cwV 0 hts gX6_text_X6_step rfl rfl rfl (by decide +kernel) ⟨Nat.le_of_ble_eq_true rfl, Nat.le_of_ble_eq_true rfl⟩) (z_preV (wc := [(a_m, .inr (6, [.ref a_m_state, .ref a_m_readPage, .int (0 : Int32), .ref a_m_tape, .int m_taped, .int m_fault, .int (0 : Int32), .int m_brokenAt, .int (0 : Int32), .int m_here, .int m_token, .int m_value, .ref a_m_cuts, .ref a_m_letters, .int m_silent, .int m_greatest, .int m_moves, .int m_holders, .ref a_m_seen, .int m_seenMany, .ref a_m_pointBy, .ref a_m_isKept, .ref a_m_lanes, .ref a_m_lengths, .ref a_m_sheetCells, .int m_torn])), (a_m_tape, .inl (k 0, 160, .inl m_tape))]) [0, 3] 0 6 hK hE hA hP hD hS (by decide) rfl rfl rfl) rfl rfl hl.1 rfl (lv_room (Nat.le_of_ble_eq_true rfl)) dX6_text_39 ⟨Nat.le_refl _, Nat.le_refl _⟩) hA hP hD hS rfl rfl rfl rfl (fun H locs hP hD hS => ?_)
    obtain ⟨e14, hv, h⟩ := zb h
    have hJ13 : ∀ (e14_ : Int32 × Int32 × Int32 × Int32 × Int32 × Int32 × Int32 × Int32 × (Nat → Int32)), e14_ = e14 → zW p l e (zR 5 112) s m ([.ref a_m] : List Value).toArray below meth c Q 3 A G [(a_m, .inr (6, [.ref a_m_state, .ref a_m_readPage, .int e14_.2.1, .ref a_m_tape, .int m_taped, .int m_fault, .int e14_.2.2.1, .int e14_.2.2.2.1, .int e14_.2.2.2.2.1, .int e14_.2.2.2.2.2.1, .int e14_.2.2.2.2.2.2.1, .int e14_.2.2.2.2.2.2.2.1, .ref a_m_cuts, .ref a_m_letters, .int m_silent, .int m_greatest, .int m_moves, .int m_holders, .ref a_m_seen, .int m_seenMany, .ref a_m_pointBy, .ref a_m_isKept, .ref a_m_lanes, .ref a_m_lengths, .ref a_m_sheetCells, .int m_torn])), (a_m_state, .inl (k 0, 156, .inl m_state)), (a_m_readPage, .inl (k 0, 26, .inl e14_.2.2.2.2.2.2.2.2)), (a_m_tape, .inl (k 0, 160, .inl m_tape)), (a_m_cuts, .inl (k 0, 8, .inl m_cuts)), (a_m_letters, .inl (k 0, 37, .inl m_letters)), (a_m_isKept, .inl (k 3, 2, .inl m_isKept))] [(0, .ref a_m), (1, .int e14_.1)] 66 [] := by
      intro e14_ hz
      subst hz
      intro H locs ls hP hD hS hl
      refine lv_aload_n hx hb dX6_text_66 rfl (lv_at hl 0 rfl) ?_
      refine lv_iconst (v := 0) hx hb dX6_text_67 (by decide) ?_
      refine va_put (D := G) (ci := 6) (v := .int (0 : Int32)) (ty := .int) (C := RX6) (T := TX6) (N := 26) hx hb hts iw_X6_text_X6 tyX6 tyX6_ok nmX6 hown hK hP hD hS 0 rfl rfl 4 (by decide) (hts (.fieldLink RX6 54 "SpireLeanModel" "taped" "I") (List.mem_of_getElem? (i := 6) rfl)) (fun _ h9 => h9) rfl (tyX6_ok 4 (by decide)) rfl rfl (Nat.le_of_ble_eq_true rfl) dX6_text_68 (fun H locs hP hD hS => ?_)
      have hP : va_P G vwCl [(a_m, .inr (6, [.ref a_m_state, .ref a_m_readPage, .int e14_.2.1, .ref a_m_tape, .int (0 : Int32), .int m_fault, .int e14_.2.2.1, .int e14_.2.2.2.1, .int e14_.2.2.2.2.1, .int e14_.2.2.2.2.2.1, .int e14_.2.2.2.2.2.2.1, .int e14_.2.2.2.2.2.2.2.1, .ref a_m_cuts, .ref a_m_letters, .int m_silent, .int m_greatest, .int m_moves, .int m_holders, .ref a_m_seen, .int m_seenMany, .ref a_m_pointBy, .ref a_m_isKept, .ref a_m_lanes, .ref a_m_lengths, .ref a_m_sheetCells, .int m_torn])), (a_m_state, .inl (k 0, 156, .inl m_state)), (a_m_readPage, .inl (k 0, 26, .inl e14_.2.2.2.2.2.2.2.2)), (a_m_tape, .inl (k 0, 160, .inl m_tape)), (a_m_cuts, .inl (k 0, 8, .inl m_cuts)), (a_m_letters, .inl (k 0, 37, .inl m_letters)), (a_m_isKept, .inl (k 3, 2, .inl m_isKept))] H := hP
      have hD : va_D A [(a_m, .inr (6, [.ref a_m_state, .ref a_m_readPage, .int e14_.2.1, .ref a_m_tape, .int (0 : Int32), .int m_fault, .int e14_.2.2.1, .int e14_.2.2.2.1, .int e14_.2.2.2.2.1, .int e14_.2.2.2.2.2.1, .int e14_.2.2.2.2.2.2.1, .int e14_.2.2.2.2.2.2.2.1, .ref a_m_cuts, .ref a_m_letters, .int m_silent, .int m_greatest, .int m_moves, .int m_holders, .ref a_m_seen, .int m_seenMany, .ref a_m_pointBy, .ref a_m_isKept, .ref a_m_lanes, .ref a_m_lengths, .ref a_m_sheetCells, .int m_torn])), (a_m_state, .inl (k 0, 156, .inl m_state)), (a_m_readPage, .inl (k 0, 26, .inl e14_.2.2.2.2.2.2.2.2)), (a_m_tape, .inl (k 0, 160, .inl m_tape)), (a_m_cuts, .inl (k 0, 8, .inl m_cuts)), (a_m_letters, .inl (k 0, 37, .inl m_letters)), (a_m_isKept, .inl (k 3, 2, .inl m_isKept))] := hD
      refine lv_aload_n hx hb dX6_text_71 rfl (lv_at hl 0 rfl) ?_
      refine lv_aload_n hx hb dX6_text_72 rfl (lv_at hl 0 rfl) ?_
      refine va_get (D := G) (ci := 6) (v := .int e14_.2.2.1) (C := RX6) (T := TX6) (N := 26) hx hb hts iw_X6_text_X6 hown hK hP 0 rfl rfl 6 (by decide) (hts (.fieldLink RX6 57 "SpireLeanModel" "broken" "I") (List.mem_of_getElem? (i := 1) rfl)) (fun _ h9 => h9) rfl dX6_text_73 ?_
      refine va_put (D := G) (ci := 6) (v := .int e14_.2.2.1) (ty := .int) (C := RX6) (T := TX6) (N := 26) hx hb hts iw_X6_text_X6 tyX6 tyX6_ok nmX6 hown hK hP hD hS 0 rfl rfl 5 (by decide) (hts (.fieldLink RX6 113 "SpireLeanModel" "fault" "I") (List.mem_of_getElem? (i := 7) rfl)) (fun _ h9 => h9) rfl (tyX6_ok 5 (by decide)) rfl rfl (Nat.le_of_ble_eq_true rfl) dX6_text_76 (fun H locs hP hD hS => ?_)
      have hP : va_P G vwCl [(a_m, .inr (6, [.ref a_m_state, .ref a_m_readPage, .int e14_.2.1, .ref a_m_tape, .int (0 : Int32), .int e14_.2.2.1, .int e14_.2.2.1, .int e14_.2.2.2.1, .int e14_.2.2.2.2.1, .int e14_.2.2.2.2.2.1, .int e14_.2.2.2.2.2.2.1, .int e14_.2.2.2.2.2.2.2.1, .ref a_m_cuts, .ref a_m_letters, .int m_silent, .int m_greatest, .int m_moves, .int m_holders, .ref a_m_seen, .int m_seenMany, .ref a_m_pointBy, .ref a_m_isKept, .ref a_m_lanes, .ref a_m_lengths, .ref a_m_sheetCells, .int m_torn])), (a_m_state, .inl (k 0, 156, .inl m_state)), (a_m_readPage, .inl (k 0, 26, .inl e14_.2.2.2.2.2.2.2.2)), (a_m_tape, .inl (k 0, 160, .inl m_tape)), (a_m_cuts, .inl (k 0, 8, .inl m_cuts)), (a_m_letters, .inl (k 0, 37, .inl m_letters)), (a_m_isKept, .inl (k 3, 2, .inl m_isKept))] H := hP
      have hD : va_D A [(a_m, .inr (6, [.ref a_m_state, .ref a_m_readPage, .int e14_.2.1, .ref a_m_tape, .int (0 : Int32), .int e14_.2.2.1, .int e14_.2.2.1, .int e14_.2.2.2.1, .int e14_.2.2.2.2.1, .int e14_.2.2.2.2.2.1, .int e14_.2.2.2.2.2.2.1, .int e14_.2.2.2.2.2.2.2.1, .ref a_m_cuts, .ref a_m_letters, .int m_silent, .int m_greatest, .int m_moves, .int m_holders, .ref a_m_seen, .int m_seenMany, .ref a_m_pointBy, .ref a_m_isKept, .ref a_m_lanes, .ref a_m_lengths, .ref a_m_sheetCells, .int m_torn])), (a_m_state, .inl (k 0, 156, .inl m_state)), (a_m_readPage, .inl (k 0, 26, .inl e14_.2.2.2.2.2.2.2.2)), (a_m_tape, .inl (k 0, 160, .inl m_tape)), (a_m_cuts, .inl (k 0, 8, .inl m_cuts)), (a_m_letters, .inl (k 0, 37, .inl m_letters)), (a_m_isKept, .inl (k 3, 2, .inl m_isKept))] := hD
      refine lv_aload_n hx hb dX6_text_79 rfl (lv_at hl 0 rfl) ?_
      refine va_get (D := G) (ci := 6) (v := .int e14_.2.2.1) (C := RX6) (T := TX6) (N := 26) hx hb hts iw_X6_text_X6 hown hK hP 0 rfl rfl 6 (by decide) (hts (.fieldLink RX6 57 "SpireLeanModel" "broken" "I") (List.mem_of_getElem? (i := 1) rfl)) (fun _ h9 => h9) rfl dX6_text_80 ?_
      refine lv_if_le (tgt := 94) hx hb dX6_text_83 (by decide) (fun c30 => ?_) (fun c30 => ?_)
      · have h := zit c30 h
        refine lv_iconst (v := 0) hx hb dX6_text_94 (by decide) ?_
        refine lv_istore_n (lv' := [(2, .int (0 : Int32)), (0, .ref a_m), (1, .int e14_.1)]) hx hb dX6_text_95 rfl hl (by decide) rfl (fun ls hl => ?_)
        obtain ⟨e23, hv, h⟩ := zb h
        have hJ22 : ∀ (e23_ : (Nat → Int32)), e23_ = e23 → zW p l e (zR 5 112) s m ([.ref a_m] : List Value).toArray below meth c Q 3 A G [(a_m, .inr (6, [.ref a_m_state, .ref a_m_readPage, .int e14_.2.1, .ref a_m_tape, .int (0 : Int32), .int e14_.2.2.1, .int e14_.2.2.1, .int e14_.2.2.2.1, .int e14_.2.2.2.2.1, .int e14_.2.2.2.2.2.1, .int e14_.2.2.2.2.2.2.1, .int e14_.2.2.2.2.2.2.2.1, .ref a_m_cuts, .ref a_m_letters, .int m_silent, .int m_greatest, .int m_moves, .int m_holders, .ref a_m_seen, .int m_seenMany, .ref a_m_pointBy, .ref a_m_isKept, .ref a_m_lanes, .ref a_m_lengths, .ref a_m_sheetCells, .int m_torn])), (a_m_state, .inl (k 0, 156, .inl e23_)), (a_m_readPage, .inl (k 0, 26, .inl e14_.2.2.2.2.2.2.2.2)), (a_m_tape, .inl (k 0, 160, .inl m_tape)), (a_m_cuts, .inl (k 0, 8, .inl m_cuts)), (a_m_letters, .inl (k 0, 37, .inl m_letters)), (a_m_isKept, .inl (k 3, 2, .inl m_isKept))] [(0, .ref a_m), (1, .int e14_.1)] 120 [] := by
          intro e23_ hz
          subst hz
          intro H locs ls hP hD hS hl
          refine lv_aload_n hx hb dX6_text_120 rfl (lv_at hl 0 rfl) ?_
          refine lv_iconst (v := 0) hx hb dX6_text_121 (by decide) ?_
          refine va_put (D := G) (ci := 6) (v := .int (0 : Int32)) (ty := .int) (C := RX6) (T := TX6) (N := 26) hx hb hts iw_X6_text_X6 tyX6 tyX6_ok nmX6 hown hK hP hD hS 0 rfl rfl 19 (by decide) (hts (.fieldLink RX6 116 "SpireLeanModel" "seenMany" "I") (List.mem_of_getElem? (i := 10) rfl)) (fun _ h9 => h9) rfl (tyX6_ok 19 (by decide)) rfl rfl (Nat.le_of_ble_eq_true rfl) dX6_text_122 (fun H locs hP hD hS => ?_)
          have hP : va_P G vwCl [(a_m, .inr (6, [.ref a_m_state, .ref a_m_readPage, .int e14_.2.1, .ref a_m_tape, .int (0 : Int32), .int e14_.2.2.1, .int e14_.2.2.1, .int e14_.2.2.2.1, .int e14_.2.2.2.2.1, .int e14_.2.2.2.2.2.1, .int e14_.2.2.2.2.2.2.1, .int e14_.2.2.2.2.2.2.2.1, .ref a_m_cuts, .ref a_m_letters, .int m_silent, .int m_greatest, .int m_moves, .int m_holders, .ref a_m_seen, .int (0 : Int32), .ref a_m_pointBy, .ref a_m_isKept, .ref a_m_lanes, .ref a_m_lengths, .ref a_m_sheetCells, .int m_torn])), (a_m_state, .inl (k 0, 156, .inl e23_)), (a_m_readPage, .inl (k 0, 26, .inl e14_.2.2.2.2.2.2.2.2)), (a_m_tape, .inl (k 0, 160, .inl m_tape)), (a_m_cuts, .inl (k 0, 8, .inl m_cuts)), (a_m_letters, .inl (k 0, 37, .inl m_letters)), (a_m_isKept, .inl (k 3, 2, .inl m_isKept))] H := hP
          have hD : va_D A [(a_m, .inr (6, [.ref a_m_state, .ref a_m_readPage, .int e14_.2.1, .ref a_m_tape, .int (0 : Int32), .int e14_.2.2.1, .int e14_.2.2.1, .int e14_.2.2.2.1, .int e14_.2.2.2.2.1, .int e14_.2.2.2.2.2.1, .int e14_.2.2.2.2.2.2.1, .int e14_.2.2.2.2.2.2.2.1, .ref a_m_cuts, .ref a_m_letters, .int m_silent, .int m_greatest, .int m_moves, .int m_holders, .ref a_m_seen, .int (0 : Int32), .ref a_m_pointBy, .ref a_m_isKept, .ref a_m_lanes, .ref a_m_lengths, .ref a_m_sheetCells, .int m_torn])), (a_m_state, .inl (k 0, 156, .inl e23_)), (a_m_readPage, .inl (k 0, 26, .inl e14_.2.2.2.2.2.2.2.2)), (a_m_tape, .inl (k 0, 160, .inl m_tape)), (a_m_cuts, .inl (k 0, 8, .inl m_cuts)), (a_m_letters, .inl (k 0, 37, .inl m_letters)), (a_m_isKept, .inl (k 3, 2, .inl m_isKept))] := hD
          refine lv_aload_n hx hb dX6_text_125 rfl (lv_at hl 0 rfl) ?_
          refine va_get (D := G) (ci := 6) (v := .ref a_m_isKept) (C := RX6) (T := TX6) (N := 26) hx hb hts iw_X6_text_X6 hown hK hP 0 rfl rfl 21 (by decide) (hts (.fieldLink RX6 35 "SpireLeanModel" "isKept" "[Z") (List.mem_of_getElem? (i := 11) rfl)) (fun _ h9 => h9) rfl dX6_text_126 ?_
          refine lv_iconst (v := 0) hx hb dX6_text_129 (by decide) ?_
          refine lv_iconst (v := 0) hx hb dX6_text_130 (by decide) ?_
          obtain ⟨v28, hv, h⟩ := zb h
          refine z_zast hx hb hK hP hD hS 6 3 rfl rfl hv dX6_text_131 (fun H locs hP hD hS => ?_)
          have hP : va_P G vwCl [(a_m, .inr (6, [.ref a_m_state, .ref a_m_readPage, .int e14_.2.1, .ref a_m_tape, .int (0 : Int32), .int e14_.2.2.1, .int e14_.2.2.1, .int e14_.2.2.2.1, .int e14_.2.2.2.2.1, .int e14_.2.2.2.2.2.1, .int e14_.2.2.2.2.2.2.1, .int e14_.2.2.2.2.2.2.2.1, .ref a_m_cuts, .ref a_m_letters, .int m_silent, .int m_greatest, .int m_moves, .int m_holders, .ref a_m_seen, .int (0 : Int32), .ref a_m_pointBy, .ref a_m_isKept, .ref a_m_lanes, .ref a_m_lengths, .ref a_m_sheetCells, .int m_torn])), (a_m_state, .inl (k 0, 156, .inl e23_)), (a_m_readPage, .inl (k 0, 26, .inl e14_.2.2.2.2.2.2.2.2)), (a_m_tape, .inl (k 0, 160, .inl m_tape)), (a_m_cuts, .inl (k 0, 8, .inl m_cuts)), (a_m_letters, .inl (k 0, 37, .inl m_letters)), (a_m_isKept, .inl (k 3, 2, .inl v28))] H := hP
          have hD : va_D A [(a_m, .inr (6, [.ref a_m_state, .ref a_m_readPage, .int e14_.2.1, .ref a_m_tape, .int (0 : Int32), .int e14_.2.2.1, .int e14_.2.2.1, .int e14_.2.2.2.1, .int e14_.2.2.2.2.1, .int e14_.2.2.2.2.2.1, .int e14_.2.2.2.2.2.2.1, .int e14_.2.2.2.2.2.2.2.1, .ref a_m_cuts, .ref a_m_letters, .int m_silent, .int m_greatest, .int m_moves, .int m_holders, .ref a_m_seen, .int (0 : Int32), .ref a_m_pointBy, .ref a_m_isKept, .ref a_m_lanes, .ref a_m_lengths, .ref a_m_sheetCells, .int m_torn])), (a_m_state, .inl (k 0, 156, .inl e23_)), (a_m_readPage, .inl (k 0, 26, .inl e14_.2.2.2.2.2.2.2.2)), (a_m_tape, .inl (k 0, 160, .inl m_tape)), (a_m_cuts, .inl (k 0, 8, .inl m_cuts)), (a_m_letters, .inl (k 0, 37, .inl m_letters)), (a_m_isKept, .inl (k 3, 2, .inl v28))] := hD
          refine lv_aload_n hx hb dX6_text_132 rfl (lv_at hl 0 rfl) ?_
          refine va_get (D := G) (ci := 6) (v := .ref a_m_isKept) (C := RX6) (T := TX6) (N := 26) hx hb hts iw_X6_text_X6 hown hK hP 0 rfl rfl 21 (by decide) (hts (.fieldLink RX6 35 "SpireLeanModel" "isKept" "[Z") (List.mem_of_getElem? (i := 11) rfl)) (fun _ h9 => h9) rfl dX6_text_133 ?_
          refine lv_iconst (v := 1) hx hb dX6_text_136 (by decide) ?_
          refine lv_iconst (v := 0) hx hb dX6_text_137 (by decide) ?_
          obtain ⟨v29, hv, h⟩ := zb h
          refine z_zast hx hb hK hP hD hS 6 3 rfl rfl hv dX6_text_138 (fun H locs hP hD hS => ?_)
          have hP : va_P G vwCl [(a_m, .inr (6, [.ref a_m_state, .ref a_m_readPage, .int e14_.2.1, .ref a_m_tape, .int (0 : Int32), .int e14_.2.2.1, .int e14_.2.2.1, .int e14_.2.2.2.1, .int e14_.2.2.2.2.1, .int e14_.2.2.2.2.2.1, .int e14_.2.2.2.2.2.2.1, .int e14_.2.2.2.2.2.2.2.1, .ref a_m_cuts, .ref a_m_letters, .int m_silent, .int m_greatest, .int m_moves, .int m_holders, .ref a_m_seen, .int (0 : Int32), .ref a_m_pointBy, .ref a_m_isKept, .ref a_m_lanes, .ref a_m_lengths, .ref a_m_sheetCells, .int m_torn])), (a_m_state, .inl (k 0, 156, .inl e23_)), (a_m_readPage, .inl (k 0, 26, .inl e14_.2.2.2.2.2.2.2.2)), (a_m_tape, .inl (k 0, 160, .inl m_tape)), (a_m_cuts, .inl (k 0, 8, .inl m_cuts)), (a_m_letters, .inl (k 0, 37, .inl m_letters)), (a_m_isKept, .inl (k 3, 2, .inl v29))] H := hP
          have hD : va_D A [(a_m, .inr (6, [.ref a_m_state, .ref a_m_readPage, .int e14_.2.1, .ref a_m_tape, .int (0 : Int32), .int e14_.2.2.1, .int e14_.2.2.1, .int e14_.2.2.2.1, .int e14_.2.2.2.2.1, .int e14_.2.2.2.2.2.1, .int e14_.2.2.2.2.2.2.1, .int e14_.2.2.2.2.2.2.2.1, .ref a_m_cuts, .ref a_m_letters, .int m_silent, .int m_greatest, .int m_moves, .int m_holders, .ref a_m_seen, .int (0 : Int32), .ref a_m_pointBy, .ref a_m_isKept, .ref a_m_lanes, .ref a_m_lengths, .ref a_m_sheetCells, .int m_torn])), (a_m_state, .inl (k 0, 156, .inl e23_)), (a_m_readPage, .inl (k 0, 26, .inl e14_.2.2.2.2.2.2.2.2)), (a_m_tape, .inl (k 0, 160, .inl m_tape)), (a_m_cuts, .inl (k 0, 8, .inl m_cuts)), (a_m_letters, .inl (k 0, 37, .inl m_letters)), (a_m_isKept, .inl (k 3, 2, .inl v29))] := hD
          refine lv_iload_n hx hb dX6_text_139 rfl (lv_at hl 1 rfl) ?_
          have hr := (zs h)
          subst hr
          exact hret H locs ls 140 hP hS dX6_text_140
        refine z_lpW (Wh := fun (x19 : Int32 × (Nat → Int32)) => zW p l e (zR 5 112) s m ([.ref a_m] : List Value).toArray below meth c Q 3 A G [(a_m, .inr (6, [.ref a_m_state, .ref a_m_readPage, .int e14_.2.1, .ref a_m_tape, .int (0 : Int32), .int e14_.2.2.1, .int e14_.2.2.1, .int e14_.2.2.2.1, .int e14_.2.2.2.2.1, .int e14_.2.2.2.2.2.1, .int e14_.2.2.2.2.2.2.1, .int e14_.2.2.2.2.2.2.2.1, .ref a_m_cuts, .ref a_m_letters, .int m_silent, .int m_greatest, .int m_moves, .int m_holders, .ref a_m_seen, .int m_seenMany, .ref a_m_pointBy, .ref a_m_isKept, .ref a_m_lanes, .ref a_m_lengths, .ref a_m_sheetCells, .int m_torn])), (a_m_state, .inl (k 0, 156, .inl x19.2)), (a_m_readPage, .inl (k 0, 26, .inl e14_.2.2.2.2.2.2.2.2)), (a_m_tape, .inl (k 0, 160, .inl m_tape)), (a_m_cuts, .inl (k 0, 8, .inl m_cuts)), (a_m_letters, .inl (k 0, 37, .inl m_letters)), (a_m_isKept, .inl (k 3, 2, .inl m_isKept))] [(0, .ref a_m), (1, .int e14_.1), (2, .int x19.1)] 96 []) ?_ 1000 _ hv H locs ls hP hD hS (lv_sub hl [1, 2, 0] rfl)
        clear h
        intro x19 o h hC20 hX21 H locs ls hP hD hS hl
        unfold p_X6_text_b96 at h
        refine lv_iload_n hx hb dX6_text_96 rfl (lv_at hl 2 rfl) ?_
        refine lv_bipush (v := 26) hx hb dX6_text_97 (by decide) ?_
        refine lv_icmp_ge (tgt := 120) hx hb dX6_text_99 (by decide) (fun c27 => ?_) (fun c27 => ?_)
        · have h := zit c27 h
          exact hJ22 _ (hX21 _ (zs h)) H locs ls hP hD hS (lv_sub hl [0, 1] rfl)
        · have h := zif c27 h
          refine lv_aload_n hx hb dX6_text_102 rfl (lv_at hl 0 rfl) ?_
          refine va_get (D := G) (ci := 6) (v := .ref a_m_state) (C := RX6) (T := TX6) (N := 26) hx hb hts iw_X6_text_X6 hown hK hP 0 rfl rfl 0 (by decide) (hts (.fieldLink RX6 7 "SpireLeanModel" "state" "[I") (List.mem_of_getElem? (i := 9) rfl)) (fun _ h9 => h9) rfl dX6_text_103 ?_
          refine lv_iload_n hx hb dX6_text_106 rfl (lv_at hl 2 rfl) ?_
          refine lv_aload_n hx hb dX6_text_107 rfl (lv_at hl 0 rfl) ?_
          refine va_get (D := G) (ci := 6) (v := .ref a_m_readPage) (C := RX6) (T := TX6) (N := 26) hx hb hts iw_X6_text_X6 hown hK hP 0 rfl rfl 1 (by decide) (hts (.fieldLink RX6 13 "SpireLeanModel" "readPage" "[I") (List.mem_of_getElem? (i := 4) rfl)) (fun _ h9 => h9) rfl dX6_text_108 ?_
          refine lv_iload_n hx hb dX6_text_111 rfl (lv_at hl 2 rfl) ?_
          obtain ⟨v25, hv, h⟩ := zb h
          refine z_iald hx hb hK hP 2 0 rfl rfl hv dX6_text_112 ?_
          obtain ⟨v26, hv, h⟩ := zb h
          refine z_iast hx hb hK hP hD hS 1 0 rfl rfl hv dX6_text_113 (fun H locs hP hD hS => ?_)
          have hP : va_P G vwCl [(a_m, .inr (6, [.ref a_m_state, .ref a_m_readPage, .int e14_.2.1, .ref a_m_tape, .int (0 : Int32), .int e14_.2.2.1, .int e14_.2.2.1, .int e14_.2.2.2.1, .int e14_.2.2.2.2.1, .int e14_.2.2.2.2.2.1, .int e14_.2.2.2.2.2.2.1, .int e14_.2.2.2.2.2.2.2.1, .ref a_m_cuts, .ref a_m_letters, .int m_silent, .int m_greatest, .int m_moves, .int m_holders, .ref a_m_seen, .int m_seenMany, .ref a_m_pointBy, .ref a_m_isKept, .ref a_m_lanes, .ref a_m_lengths, .ref a_m_sheetCells, .int m_torn])), (a_m_state, .inl (k 0, 156, .inl v26)), (a_m_readPage, .inl (k 0, 26, .inl e14_.2.2.2.2.2.2.2.2)), (a_m_tape, .inl (k 0, 160, .inl m_tape)), (a_m_cuts, .inl (k 0, 8, .inl m_cuts)), (a_m_letters, .inl (k 0, 37, .inl m_letters)), (a_m_isKept, .inl (k 3, 2, .inl m_isKept))] H := hP
          have hD : va_D A [(a_m, .inr (6, [.ref a_m_state, .ref a_m_readPage, .int e14_.2.1, .ref a_m_tape, .int (0 : Int32), .int e14_.2.2.1, .int e14_.2.2.1, .int e14_.2.2.2.1, .int e14_.2.2.2.2.1, .int e14_.2.2.2.2.2.1, .int e14_.2.2.2.2.2.2.1, .int e14_.2.2.2.2.2.2.2.1, .ref a_m_cuts, .ref a_m_letters, .int m_silent, .int m_greatest, .int m_moves, .int m_holders, .ref a_m_seen, .int m_seenMany, .ref a_m_pointBy, .ref a_m_isKept, .ref a_m_lanes, .ref a_m_lengths, .ref a_m_sheetCells, .int m_torn])), (a_m_state, .inl (k 0, 156, .inl v26)), (a_m_readPage, .inl (k 0, 26, .inl e14_.2.2.2.2.2.2.2.2)), (a_m_tape, .inl (k 0, 160, .inl m_tape)), (a_m_cuts, .inl (k 0, 8, .inl m_cuts)), (a_m_letters, .inl (k 0, 37, .inl m_letters)), (a_m_isKept, .inl (k 3, 2, .inl m_isKept))] := hD
          refine lv_iinc (v := x19.1 + (1 : Int32)) (lv' := [(2, .int (x19.1 + (1 : Int32))), (0, .ref a_m), (1, .int e14_.1)]) hx hb dX6_text_114 hl (k := 2) rfl rfl (by decide) rfl (fun ls hl => ?_)
          refine lv_goto (tgt := 96) hx hb dX6_text_117 (by decide) ?_
          exact hC20 _ (zs h) H locs ls hP hD hS (lv_sub hl [1, 2, 0] rfl)
      · have h := zif c30 h
        refine lv_bipush (v := (-10)) hx hb dX6_text_86 (by decide) ?_
        refine lv_aload_n hx hb dX6_text_88 rfl (lv_at hl 0 rfl) ?_
        refine va_get (D := G) (ci := 6) (v := .int e14_.2.2.2.1) (C := RX6) (T := TX6) (N := 26) hx hb hts iw_X6_text_X6 hown hK hP 0 rfl rfl 7 (by decide) (hts (.fieldLink RX6 63 "SpireLeanModel" "brokenAt" "I") (List.mem_of_getElem? (i := 8) rfl)) (fun _ h9 => h9) rfl dX6_text_89 ?_
        refine lv_isub hx hb dX6_text_92 ?_
        have hr := (zs h)
        subst hr
        exact hret H locs ls 93 hP hS dX6_text_93
    refine z_lpW (Wh := fun (x10 : Int32 × Int32 × Int32 × Int32 × Int32 × Int32 × Int32 × Int32 × (Nat → Int32)) => zW p l e (zR 5 112) s m ([.ref a_m] : List Value).toArray below meth c Q 3 A G [(a_m, .inr (6, [.ref a_m_state, .ref a_m_readPage, .int x10.2.1, .ref a_m_tape, .int m_taped, .int m_fault, .int x10.2.2.1, .int x10.2.2.2.1, .int x10.2.2.2.2.1, .int x10.2.2.2.2.2.1, .int x10.2.2.2.2.2.2.1, .int x10.2.2.2.2.2.2.2.1, .ref a_m_cuts, .ref a_m_letters, .int m_silent, .int m_greatest, .int m_moves, .int m_holders, .ref a_m_seen, .int m_seenMany, .ref a_m_pointBy, .ref a_m_isKept, .ref a_m_lanes, .ref a_m_lengths, .ref a_m_sheetCells, .int m_torn])), (a_m_state, .inl (k 0, 156, .inl m_state)), (a_m_readPage, .inl (k 0, 26, .inl x10.2.2.2.2.2.2.2.2)), (a_m_tape, .inl (k 0, 160, .inl m_tape)), (a_m_cuts, .inl (k 0, 8, .inl m_cuts)), (a_m_letters, .inl (k 0, 37, .inl m_letters)), (a_m_isKept, .inl (k 3, 2, .inl m_isKept))] [(0, .ref a_m), (1, .int x10.1)] 42 []) ?_ 1000 _ hv H locs ls hP hD hS (lv_sub hl [0, 1] rfl)
    clear h
    intro x10 o h hC11 hX12 H locs ls hP hD hS hl
    unfold p_X6_text_b42 at h
    refine lv_aload_n hx hb dX6_text_42 rfl (lv_at hl 0 rfl) ?_
    refine va_get (D := G) (ci := 6) (v := .int x10.2.2.1) (C := RX6) (T := TX6) (N := 26) hx hb hts iw_X6_text_X6 hown hK hP 0 rfl rfl 6 (by decide) (hts (.fieldLink RX6 57 "SpireLeanModel" "broken" "I") (List.mem_of_getElem? (i := 1) rfl)) (fun _ h9 => h9) rfl dX6_text_43 ?_
    refine lv_if_ne (tgt := 66) hx hb dX6_text_46 (by decide) (fun c18 => ?_) (fun c18 => ?_)
    · have h := zif c18 h
      exact hJ13 _ (hX12 _ (zs h)) H locs ls hP hD hS (lv_sub hl [0, 1] rfl)
    · have h := zit c18 h
      refine lv_aload_n hx hb dX6_text_49 rfl (lv_at hl 0 rfl) ?_
      refine va_get (D := G) (ci := 6) (v := .int x10.2.2.2.2.2.2.1) (C := RX6) (T := TX6) (N := 26) hx hb hts iw_X6_text_X6 hown hK hP 0 rfl rfl 10 (by decide) (hts (.fieldLink RX6 66 "SpireLeanModel" "token" "I") (List.mem_of_getElem? (i := 5) rfl)) (fun _ h9 => h9) rfl dX6_text_50 ?_
      refine lv_if_eq (tgt := 66) hx hb dX6_text_53 (by decide) (fun c17 => ?_) (fun c17 => ?_)
      · have h := zit c17 h
        exact hJ13 _ (hX12 _ (zs h)) H locs ls hP hD hS (lv_sub hl [0, 1] rfl)
      · have h := zif c17 h
        refine lv_aload_n hx hb dX6_text_56 rfl (lv_at hl 0 rfl) ?_
        obtain ⟨o16, hv, h⟩ := zb h
        refine z_gov (w2 := [(a_m, .inr (6, [.ref a_m_state, .ref a_m_readPage, .int o16.1, .ref a_m_tape, .int m_taped, .int m_fault, .int o16.2.1, .int o16.2.2.1, .int o16.2.2.2.1, .int o16.2.2.2.2.1, .int o16.2.2.2.2.2.1, .int o16.2.2.2.2.2.2.1, .ref a_m_cuts, .ref a_m_letters, .int m_silent, .int m_greatest, .int m_moves, .int m_holders, .ref a_m_seen, .int m_seenMany, .ref a_m_pointBy, .ref a_m_isKept, .ref a_m_lanes, .ref a_m_lengths, .ref a_m_sheetCells, .int m_torn])), (a_m_state, .inl (k 0, 156, .inl m_state)), (a_m_readPage, .inl (k 0, 26, .inl o16.2.2.2.2.2.2.2)), (a_m_tape, .inl (k 0, 160, .inl m_tape)), (a_m_cuts, .inl (k 0, 8, .inl m_cuts)), (a_m_letters, .inl (k 0, 37, .inl m_letters)), (a_m_isKept, .inl (k 3, 2, .inl m_isKept))]) [0, 2, 3, 4, 5] (va_runV (As := []) (rest := []) ⟨hx, hb, hml, hown, hts⟩ (c_X6_readLine l G k tL tM sK sV a_m a_m_state a_m_readPage a_m_tape a_m_cuts a_m_letters a_m_seen a_m_pointBy a_m_isKept a_m_lanes a_m_lengths a_m_sheetCells H.size x10.2.1 m_taped m_fault x10.2.2.1 x10.2.2.2.1 x10.2.2.2.2.1 x10.2.2.2.2.2.1 x10.2.2.2.2.2.2.1 x10.2.2.2.2.2.2.2.1 m_silent m_greatest m_moves m_holders m_seenMany m_torn x10.2.2.2.2.2.2.2.2 m_tape m_cuts m_letters o16 hv) (cwV 0 hts gX6_text_X6_readLine rfl rfl rfl (by decide +kernel) ⟨Nat.le_of_ble_eq_true rfl, Nat.le_of_ble_eq_true rfl⟩) (z_preV (wc := [(a_m, .inr (6, [.ref a_m_state, .ref a_m_readPage, .int x10.2.1, .ref a_m_tape, .int m_taped, .int m_fault, .int x10.2.2.1, .int x10.2.2.2.1, .int x10.2.2.2.2.1, .int x10.2.2.2.2.2.1, .int x10.2.2.2.2.2.2.1, .int x10.2.2.2.2.2.2.2.1, .ref a_m_cuts, .ref a_m_letters, .int m_silent, .int m_greatest, .int m_moves, .int m_holders, .ref a_m_seen, .int m_seenMany, .ref a_m_pointBy, .ref a_m_isKept, .ref a_m_lanes, .ref a_m_lengths, .ref a_m_sheetCells, .int m_torn])), (a_m_readPage, .inl (k 0, 26, .inl x10.2.2.2.2.2.2.2.2)), (a_m_tape, .inl (k 0, 160, .inl m_tape)), (a_m_cuts, .inl (k 0, 8, .inl m_cuts)), (a_m_letters, .inl (k 0, 37, .inl m_letters))]) [0, 2, 3, 4, 5] 0 6 hK hE hA hP hD hS (by decide) rfl rfl rfl) rfl rfl hl.1 rfl (lv_room (Nat.le_of_ble_eq_true rfl)) dX6_text_57 ⟨Nat.le_refl _, Nat.le_refl _⟩) hA hP hD hS rfl rfl rfl rfl (fun H locs hP hD hS => ?_)
        refine lv_iinc (v := x10.1 + (1 : Int32)) (lv' := [(1, .int (x10.1 + (1 : Int32))), (0, .ref a_m)]) hx hb dX6_text_60 hl (k := 1) rfl rfl (by decide) rfl (fun ls hl => ?_)
        refine lv_goto (tgt := 42) hx hb dX6_text_63 (by decide) ?_
        exact hC11 _ (zs h) H locs ls hP hD hS (lv_sub hl [1, 0] rfl)
  refine z_lpW (Wh := fun (x1 : Int32 × (Nat → Int32)) => zW p l e (zR 5 112) s m ([.ref a_m] : List Value).toArray below meth c Q 3 A G [(a_m, .inr (6, [.ref a_m_state, .ref a_m_readPage, .int (0 : Int32), .ref a_m_tape, .int m_taped, .int m_fault, .int (0 : Int32), .int m_brokenAt, .int (0 : Int32), .int m_here, .int m_token, .int m_value, .ref a_m_cuts, .ref a_m_letters, .int m_silent, .int m_greatest, .int m_moves, .int m_holders, .ref a_m_seen, .int m_seenMany, .ref a_m_pointBy, .ref a_m_isKept, .ref a_m_lanes, .ref a_m_lengths, .ref a_m_sheetCells, .int m_torn])), (a_m_state, .inl (k 0, 156, .inl m_state)), (a_m_readPage, .inl (k 0, 26, .inl x1.2)), (a_m_tape, .inl (k 0, 160, .inl m_tape)), (a_m_cuts, .inl (k 0, 8, .inl m_cuts)), (a_m_letters, .inl (k 0, 37, .inl m_letters)), (a_m_isKept, .inl (k 3, 2, .inl m_isKept))] [(0, .ref a_m), (1, .int (0 : Int32)), (2, .int x1.1)] 19 []) ?_ 1000 _ hv H locs ls hP hD hS (lv_sub hl [2, 1, 0] rfl)
  clear h
  intro x1 o h hC2 hX3 H locs ls hP hD hS hl
  unfold p_X6_text_b19 at h
  refine lv_iload_n hx hb dX6_text_19 rfl (lv_at hl 2 rfl) ?_
  refine lv_bipush (v := 26) hx hb dX6_text_20 (by decide) ?_
  refine lv_icmp_ge (tgt := 38) hx hb dX6_text_22 (by decide) (fun c8 => ?_) (fun c8 => ?_)
  · have h := zit c8 h
    exact hJ4 _ (hX3 _ (zs h)) H locs ls hP hD hS (lv_sub hl [0, 1] rfl)
  · have h := zif c8 h
    refine lv_aload_n hx hb dX6_text_25 rfl (lv_at hl 0 rfl) ?_
    refine va_get (D := G) (ci := 6) (v := .ref a_m_readPage) (C := RX6) (T := TX6) (N := 26) hx hb hts iw_X6_text_X6 hown hK hP 0 rfl rfl 1 (by decide) (hts (.fieldLink RX6 13 "SpireLeanModel" "readPage" "[I") (List.mem_of_getElem? (i := 4) rfl)) (fun _ h9 => h9) rfl dX6_text_26 ?_
    refine lv_iload_n hx hb dX6_text_29 rfl (lv_at hl 2 rfl) ?_
    refine lv_iconst (v := 0) hx hb dX6_text_30 (by decide) ?_
    obtain ⟨v7, hv, h⟩ := zb h
    refine z_iast hx hb hK hP hD hS 2 0 rfl rfl hv dX6_text_31 (fun H locs hP hD hS => ?_)
    have hP : va_P G vwCl [(a_m, .inr (6, [.ref a_m_state, .ref a_m_readPage, .int (0 : Int32), .ref a_m_tape, .int m_taped, .int m_fault, .int (0 : Int32), .int m_brokenAt, .int (0 : Int32), .int m_here, .int m_token, .int m_value, .ref a_m_cuts, .ref a_m_letters, .int m_silent, .int m_greatest, .int m_moves, .int m_holders, .ref a_m_seen, .int m_seenMany, .ref a_m_pointBy, .ref a_m_isKept, .ref a_m_lanes, .ref a_m_lengths, .ref a_m_sheetCells, .int m_torn])), (a_m_state, .inl (k 0, 156, .inl m_state)), (a_m_readPage, .inl (k 0, 26, .inl v7)), (a_m_tape, .inl (k 0, 160, .inl m_tape)), (a_m_cuts, .inl (k 0, 8, .inl m_cuts)), (a_m_letters, .inl (k 0, 37, .inl m_letters)), (a_m_isKept, .inl (k 3, 2, .inl m_isKept))] H := hP
    have hD : va_D A [(a_m, .inr (6, [.ref a_m_state, .ref a_m_readPage, .int (0 : Int32), .ref a_m_tape, .int m_taped, .int m_fault, .int (0 : Int32), .int m_brokenAt, .int (0 : Int32), .int m_here, .int m_token, .int m_value, .ref a_m_cuts, .ref a_m_letters, .int m_silent, .int m_greatest, .int m_moves, .int m_holders, .ref a_m_seen, .int m_seenMany, .ref a_m_pointBy, .ref a_m_isKept, .ref a_m_lanes, .ref a_m_lengths, .ref a_m_sheetCells, .int m_torn])), (a_m_state, .inl (k 0, 156, .inl m_state)), (a_m_readPage, .inl (k 0, 26, .inl v7)), (a_m_tape, .inl (k 0, 160, .inl m_tape)), (a_m_cuts, .inl (k 0, 8, .inl m_cuts)), (a_m_letters, .inl (k 0, 37, .inl m_letters)), (a_m_isKept, .inl (k 3, 2, .inl m_isKept))] := hD
    refine lv_iinc (v := x1.1 + (1 : Int32)) (lv' := [(2, .int (x1.1 + (1 : Int32))), (0, .ref a_m), (1, .int (0 : Int32))]) hx hb dX6_text_32 hl (k := 2) rfl rfl (by decide) rfl (fun ls hl => ?_)
    refine lv_goto (tgt := 19) hx hb dX6_text_35 (by decide) ?_
    exact hC2 _ (zs h) H locs ls hP hD hS (lv_sub hl [1, 2, 0] rfl)
theorem iw_X6_fault_X6 : ∀ w ∈ wsX60, w ∈ wsX6_fault := fun _ h => List.mem_cons_of_mem _ (List.mem_append_right _ h)
set_option maxHeartbeats 4000000 in
set_option maxRecDepth 100000 in
theorem c_X6_fault (l : Launch) (G : va_G) (k : Nat → ClassId) (tL tM : Nat) (sK sV : Nat → Nat) (a_m : Nat) (a_m_state : Nat) (a_m_readPage : Nat) (a_m_tape : Nat) (a_m_cuts : Nat) (a_m_letters : Nat) (a_m_seen : Nat) (a_m_pointBy : Nat) (a_m_isKept : Nat) (a_m_lanes : Nat) (a_m_lengths : Nat) (a_m_sheetCells : Nat) (sz : Nat) (m_toldOnce : Int32) (m_taped : Int32) (m_fault : Int32) (m_broken : Int32) (m_brokenAt : Int32) (m_spot : Int32) (m_here : Int32) (m_token : Int32) (m_value : Int32) (m_silent : Int32) (m_greatest : Int32) (m_moves : Int32) (m_holders : Int32) (m_seenMany : Int32) (m_torn : Int32) (out : Int32) (h : p_X6_fault m_fault = some out) : zMi l yX6_fault wsX6_fault 0 0 G k tL tM sK sV [.ref a_m] [(a_m, .inr (6, [.ref a_m_state, .ref a_m_readPage, .int m_toldOnce, .ref a_m_tape, .int m_taped, .int m_fault, .int m_broken, .int m_brokenAt, .int m_spot, .int m_here, .int m_token, .int m_value, .ref a_m_cuts, .ref a_m_letters, .int m_silent, .int m_greatest, .int m_moves, .int m_holders, .ref a_m_seen, .int m_seenMany, .ref a_m_pointBy, .ref a_m_isKept, .ref a_m_lanes, .ref a_m_lengths, .ref a_m_sheetCells, .int m_torn]))] [(a_m, .inr (6, [.ref a_m_state, .ref a_m_readPage, .int m_toldOnce, .ref a_m_tape, .int m_taped, .int m_fault, .int m_broken, .int m_brokenAt, .int m_spot, .int m_here, .int m_token, .int m_value, .ref a_m_cuts, .ref a_m_letters, .int m_silent, .int m_greatest, .int m_moves, .int m_holders, .ref a_m_seen, .int m_seenMany, .ref a_m_pointBy, .ref a_m_isKept, .ref a_m_lanes, .ref a_m_lengths, .ref a_m_sheetCells, .int m_torn]))] out sz := by
  refine z_meti (cc := cX6_fault) (maxL := 1) (by decide) rfl (Nat.le_of_ble_eq_true rfl) ?_
  intro p e s m below meth c A Q H locs ls hx hb hml hts hown hA hK hE hret hP hD hS hl
  have hown : s.vm.findClass RX6 = some m.cls := hown
  have hl : lv_has ls 1 [(0, .ref a_m)] := hl
  unfold p_X6_fault at h
  refine lv_aload_n hx hb dX6_fault_0 rfl (lv_at hl 0 rfl) ?_
  refine va_get (D := G) (ci := 6) (v := .int m_fault) (C := RX6) (T := TX6) (N := 26) hx hb hts iw_X6_fault_X6 hown hK hP 0 rfl rfl 5 (by decide) (hts (.fieldLink RX6 113 "SpireLeanModel" "fault" "I") (List.mem_of_getElem? (i := 1) rfl)) (fun _ h9 => h9) rfl dX6_fault_1 ?_
  have hr := (zs h)
  subst hr
  exact hret H locs ls 4 hP hS dX6_fault_4
theorem iw_X6_isDraw_X6 : ∀ w ∈ wsX60, w ∈ wsX6_isDraw := fun _ h => List.mem_cons_of_mem _ (List.mem_append_right _ h)
set_option maxHeartbeats 4000000 in
set_option maxRecDepth 100000 in
theorem c_X6_isDraw (l : Launch) (G : va_G) (k : Nat → ClassId) (tL tM : Nat) (sK sV : Nat → Nat) (a_m : Nat) (a_m_state : Nat) (a_m_readPage : Nat) (a_m_tape : Nat) (a_m_cuts : Nat) (a_m_letters : Nat) (a_m_seen : Nat) (a_m_pointBy : Nat) (a_m_isKept : Nat) (a_m_lanes : Nat) (a_m_lengths : Nat) (a_m_sheetCells : Nat) (sz : Nat) (m_toldOnce : Int32) (m_taped : Int32) (m_fault : Int32) (m_broken : Int32) (m_brokenAt : Int32) (m_spot : Int32) (m_here : Int32) (m_token : Int32) (m_value : Int32) (m_silent : Int32) (m_greatest : Int32) (m_moves : Int32) (m_holders : Int32) (m_seenMany : Int32) (m_torn : Int32) (m_state : Nat → Int32) (u1 : Int32) (out : Int32) (h : p_X6_isDraw u1 m_state = some out) : zMi l yX6_isDraw wsX6_isDraw 1 25 G k tL tM sK sV [.ref a_m, .int u1] [(a_m, .inr (6, [.ref a_m_state, .ref a_m_readPage, .int m_toldOnce, .ref a_m_tape, .int m_taped, .int m_fault, .int m_broken, .int m_brokenAt, .int m_spot, .int m_here, .int m_token, .int m_value, .ref a_m_cuts, .ref a_m_letters, .int m_silent, .int m_greatest, .int m_moves, .int m_holders, .ref a_m_seen, .int m_seenMany, .ref a_m_pointBy, .ref a_m_isKept, .ref a_m_lanes, .ref a_m_lengths, .ref a_m_sheetCells, .int m_torn])), (a_m_state, .inl (k 0, 156, .inl m_state))] [(a_m, .inr (6, [.ref a_m_state, .ref a_m_readPage, .int m_toldOnce, .ref a_m_tape, .int m_taped, .int m_fault, .int m_broken, .int m_brokenAt, .int m_spot, .int m_here, .int m_token, .int m_value, .ref a_m_cuts, .ref a_m_letters, .int m_silent, .int m_greatest, .int m_moves, .int m_holders, .ref a_m_seen, .int m_seenMany, .ref a_m_pointBy, .ref a_m_isKept, .ref a_m_lanes, .ref a_m_lengths, .ref a_m_sheetCells, .int m_torn])), (a_m_state, .inl (k 0, 156, .inl m_state))] out sz := by
  refine z_metz (cc := cX6_isDraw) (maxL := 2) (by decide) rfl (Nat.le_of_ble_eq_true rfl) ?_
  intro p e s m below meth c A Q H locs ls hx hb hml hts hown hA hK hE hret hP hD hS hl
  have hown : s.vm.findClass RX6 = some m.cls := hown
  have hl : lv_has ls 2 [(0, .ref a_m), (1, .int u1)] := hl
  unfold p_X6_isDraw at h
  refine lv_iload_n hx hb dX6_isDraw_0 rfl (lv_at hl 1 rfl) ?_
  refine lv_i2l (v := u1.toInt64) hx hb dX6_isDraw_1 rfl ?_
  refine lv_lconst (v := 0) hx hb dX6_isDraw_2 (by decide) ?_
  refine lv_aload_n hx hb dX6_isDraw_3 rfl (lv_at hl 0 rfl) ?_
  refine va_get (D := G) (ci := 6) (v := .ref a_m_state) (C := RX6) (T := TX6) (N := 26) hx hb hts iw_X6_isDraw_X6 hown hK hP 0 rfl rfl 0 (by decide) (hts (.fieldLink RX6 7 "SpireLeanModel" "state" "[I") (List.mem_of_getElem? (i := 1) rfl)) (fun _ h9 => h9) rfl dX6_isDraw_4 ?_
  refine lv_bipush (v := 20) hx hb dX6_isDraw_7 (by decide) ?_
  obtain ⟨v1, hv, h⟩ := zb h
  refine z_iald hx hb hK hP 1 0 rfl rfl hv dX6_isDraw_9 ?_
  refine lv_iconst (v := 1) hx hb dX6_isDraw_10 (by decide) ?_
  refine lv_isub hx hb dX6_isDraw_11 ?_
  refine lv_i2l (v := (v1 - (1 : Int32)).toInt64) hx hb dX6_isDraw_12 rfl ?_
  obtain ⟨o2, hv, h⟩ := zb h
  refine z_goi (w2 := [(a_m, .inr (6, [.ref a_m_state, .ref a_m_readPage, .int m_toldOnce, .ref a_m_tape, .int m_taped, .int m_fault, .int m_broken, .int m_brokenAt, .int m_spot, .int m_here, .int m_token, .int m_value, .ref a_m_cuts, .ref a_m_letters, .int m_silent, .int m_greatest, .int m_moves, .int m_holders, .ref a_m_seen, .int m_seenMany, .ref a_m_pointBy, .ref a_m_isKept, .ref a_m_lanes, .ref a_m_lengths, .ref a_m_sheetCells, .int m_torn])), (a_m_state, .inl (k 0, 156, .inl m_state))]) [] (va_runS (As := [.long u1.toInt64, .long (0 : Int64), .long ((v1 - (1 : Int32)).toInt64)]) (rest := []) ⟨hx, hb, hml, hown, hts⟩ (c_X6_in l G k tL tM sK sV H.size u1.toInt64 (0 : Int64) ((v1 - (1 : Int32)).toInt64) o2 hv) (va_cwS 3 hts gX6_isDraw_X6_in rfl rfl rfl (by decide +kernel) ⟨Nat.le_of_ble_eq_true rfl, Nat.le_of_ble_eq_true rfl⟩) (z_preS (wc := []) [] hK hE hA hP hD hS (by decide) rfl) rfl rfl hl.1 rfl (lv_room (Nat.le_of_ble_eq_true rfl)) dX6_isDraw_13 ⟨Nat.le_refl _, Nat.le_refl _⟩) hA hP hD hS rfl rfl rfl rfl (fun H locs hP hD hS => ?_)
  obtain ⟨v3, hv, h⟩ := zb h
  obtain ⟨hbit, hvv⟩ := z_bitS hv
  rw [hvv]
  have hr := (zs h)
  subst hr
  exact hret H locs ls 16 hbit hP hS dX6_isDraw_16
set_option maxHeartbeats 4000000 in
set_option maxRecDepth 100000 in
theorem c_X6_isCell (l : Launch) (G : va_G) (k : Nat → ClassId) (tL tM : Nat) (sK sV : Nat → Nat) (sz : Nat) (u1 : Int32) (out : Int32) (h : p_X6_isCell u1 = some out) : zMi l yX6_isCell wsX6_isCell 1 25 G k tL tM sK sV [.int u1] [] [] out sz := by
  refine z_metz (cc := cX6_isCell) (maxL := 1) (by decide) rfl (Nat.le_of_ble_eq_true rfl) ?_
  intro p e s m below meth c A Q H locs ls hx hb hml hts hown hA hK hE hret hP hD hS hl
  have hown : s.vm.findClass RX6 = some m.cls := hown
  have hl : lv_has ls 1 [(0, .int u1)] := hl
  unfold p_X6_isCell at h
  refine lv_iload_n hx hb dX6_isCell_0 rfl (lv_at hl 0 rfl) ?_
  refine lv_i2l (v := u1.toInt64) hx hb dX6_isCell_1 rfl ?_
  refine lv_lconst (v := 0) hx hb dX6_isCell_2 (by decide) ?_
  refine lv_ldc2 hx hb hown (hts (.constantLong RX6 119 (99)) (List.mem_of_getElem? (i := 1) rfl)) dX6_isCell_3 ?_
  obtain ⟨o1, hv, h⟩ := zb h
  refine z_goi (w2 := []) [] (va_runS (As := [.long u1.toInt64, .long (0 : Int64), .long (99 : Int64)]) (rest := []) ⟨hx, hb, hml, hown, hts⟩ (c_X6_in l G k tL tM sK sV H.size u1.toInt64 (0 : Int64) (99 : Int64) o1 hv) (va_cwS 3 hts gX6_isCell_X6_in rfl rfl rfl (by decide +kernel) ⟨Nat.le_of_ble_eq_true rfl, Nat.le_of_ble_eq_true rfl⟩) (z_preS (wc := []) [] hK hE hA hP hD hS (by decide) rfl) rfl rfl hl.1 rfl (lv_room (Nat.le_of_ble_eq_true rfl)) dX6_isCell_6 ⟨Nat.le_refl _, Nat.le_refl _⟩) hA hP hD hS rfl rfl rfl rfl (fun H locs hP hD hS => ?_)
  obtain ⟨v2, hv, h⟩ := zb h
  obtain ⟨hbit, hvv⟩ := z_bitS hv
  rw [hvv]
  have hr := (zs h)
  subst hr
  exact hret H locs ls 9 hbit hP hS dX6_isCell_9
set_option maxHeartbeats 4000000 in
set_option maxRecDepth 100000 in
theorem c_X6_apart (l : Launch) (G : va_G) (k : Nat → ClassId) (tL tM : Nat) (sK sV : Nat → Nat) (sz : Nat) (u1 : Int32) (u2 : Int32) (out : Int32) (h : p_X6_apart u1 u2 = some out) : zMi l yX6_apart wsX6_apart 0 0 G k tL tM sK sV [.int u1, .int u2] [] [] out sz := by
  refine z_meti (cc := cX6_apart) (maxL := 2) (by decide) rfl (Nat.le_of_ble_eq_true rfl) ?_
  intro p e s m below meth c A Q H locs ls hx hb hml hts hown hA hK hE hret hP hD hS hl
  have hown : s.vm.findClass RX6 = some m.cls := hown
  have hl : lv_has ls 2 [(0, .int u1), (1, .int u2)] := hl
  unfold p_X6_apart at h
  refine lv_iload_n hx hb dX6_apart_0 rfl (lv_at hl 0 rfl) ?_
  refine lv_iload_n hx hb dX6_apart_1 rfl (lv_at hl 1 rfl) ?_
  refine lv_icmp_le (tgt := 11) hx hb dX6_apart_2 (by decide) (fun c1 => ?_) (fun c1 => ?_)
  · have h := zit c1 h
    refine lv_iload_n hx hb dX6_apart_11 rfl (lv_at hl 1 rfl) ?_
    refine lv_iload_n hx hb dX6_apart_12 rfl (lv_at hl 0 rfl) ?_
    refine lv_isub hx hb dX6_apart_13 ?_
    have hr := (zs h)
    subst hr
    exact hret H locs ls 14 hP hS dX6_apart_14
  · have h := zif c1 h
    refine lv_iload_n hx hb dX6_apart_5 rfl (lv_at hl 0 rfl) ?_
    refine lv_iload_n hx hb dX6_apart_6 rfl (lv_at hl 1 rfl) ?_
    refine lv_isub hx hb dX6_apart_7 ?_
    refine lv_goto (tgt := 14) hx hb dX6_apart_8 (by decide) ?_
    have hr := (zs h)
    subst hr
    exact hret H locs ls 14 hP hS dX6_apart_14
set_option maxHeartbeats 4000000 in
set_option maxRecDepth 100000 in
theorem c_X6_farOf (l : Launch) (G : va_G) (k : Nat → ClassId) (tL tM : Nat) (sK sV : Nat → Nat) (sz : Nat) (u1 : Int32) (u2 : Int32) (out : Int32) (h : p_X6_farOf u1 u2 = some out) : zMi l yX6_farOf wsX6_farOf 1 21 G k tL tM sK sV [.int u1, .int u2] [] [] out sz := by
  refine z_meti (cc := cX6_farOf) (maxL := 2) (by decide) rfl (Nat.le_of_ble_eq_true rfl) ?_
  intro p e s m below meth c A Q H locs ls hx hb hml hts hown hA hK hE hret hP hD hS hl
  have hown : s.vm.findClass RX6 = some m.cls := hown
  have hl : lv_has ls 2 [(0, .int u1), (1, .int u2)] := hl
  unfold p_X6_farOf at h
  refine lv_iload_n hx hb dX6_farOf_0 rfl (lv_at hl 0 rfl) ?_
  refine lv_bipush (v := 10) hx hb dX6_farOf_1 (by decide) ?_
  refine lv_idiv hx hb dX6_farOf_3 (by decide) ?_
  refine lv_iload_n hx hb dX6_farOf_4 rfl (lv_at hl 1 rfl) ?_
  refine lv_bipush (v := 10) hx hb dX6_farOf_5 (by decide) ?_
  refine lv_idiv hx hb dX6_farOf_7 (by decide) ?_
  obtain ⟨o1, hv, h⟩ := zb h
  refine z_goi (w2 := []) [] (va_runS (As := [.int (u1 / (10 : Int32)), .int (u2 / (10 : Int32))]) (rest := []) ⟨hx, hb, hml, hown, hts⟩ (c_X6_apart l G k tL tM sK sV H.size (u1 / (10 : Int32)) (u2 / (10 : Int32)) o1 hv) (va_cwS 2 hts gX6_farOf_X6_apart rfl rfl rfl (by decide +kernel) ⟨Nat.le_of_ble_eq_true rfl, Nat.le_of_ble_eq_true rfl⟩) (z_preS (wc := []) [] hK hE hA hP hD hS (by decide) rfl) rfl rfl hl.1 rfl (lv_room (Nat.le_of_ble_eq_true rfl)) dX6_farOf_8 ⟨Nat.le_refl _, Nat.le_refl _⟩) hA hP hD hS rfl rfl rfl rfl (fun H locs hP hD hS => ?_)
  refine lv_iload_n hx hb dX6_farOf_11 rfl (lv_at hl 0 rfl) ?_
  refine lv_bipush (v := 10) hx hb dX6_farOf_12 (by decide) ?_
  refine lv_irem hx hb dX6_farOf_14 (by decide) ?_
  refine lv_iload_n hx hb dX6_farOf_15 rfl (lv_at hl 1 rfl) ?_
  refine lv_bipush (v := 10) hx hb dX6_farOf_16 (by decide) ?_
  refine lv_irem hx hb dX6_farOf_18 (by decide) ?_
  obtain ⟨o2, hv, h⟩ := zb h
  refine z_goi (w2 := []) [] (va_runS (As := [.int (u1 - u1 / (10 : Int32) * (10 : Int32)), .int (u2 - u2 / (10 : Int32) * (10 : Int32))]) (rest := [.int o1]) ⟨hx, hb, hml, hown, hts⟩ (c_X6_apart l G k tL tM sK sV H.size (u1 - u1 / (10 : Int32) * (10 : Int32)) (u2 - u2 / (10 : Int32) * (10 : Int32)) o2 hv) (va_cwS 2 hts gX6_farOf_X6_apart rfl rfl rfl (by decide +kernel) ⟨Nat.le_of_ble_eq_true rfl, Nat.le_of_ble_eq_true rfl⟩) (z_preS (wc := []) [] hK hE hA hP hD hS (by decide) rfl) rfl rfl hl.1 rfl (lv_room (Nat.le_of_ble_eq_true rfl)) dX6_farOf_19 ⟨Nat.le_refl _, Nat.le_refl _⟩) hA hP hD hS rfl rfl rfl rfl (fun H locs hP hD hS => ?_)
  refine lv_iadd hx hb dX6_farOf_22 ?_
  have hr := (zs h)
  subst hr
  exact hret H locs ls 23 hP hS dX6_farOf_23
theorem iw_X6_pointOn_X6 : ∀ w ∈ wsX60, w ∈ wsX6_pointOn := fun _ h => List.mem_cons_of_mem _ (List.mem_append_right _ h)
set_option maxHeartbeats 4000000 in
set_option maxRecDepth 100000 in
theorem c_X6_pointOn (l : Launch) (G : va_G) (k : Nat → ClassId) (tL tM : Nat) (sK sV : Nat → Nat) (a_m : Nat) (a_m_state : Nat) (a_m_readPage : Nat) (a_m_tape : Nat) (a_m_cuts : Nat) (a_m_letters : Nat) (a_m_seen : Nat) (a_m_pointBy : Nat) (a_m_isKept : Nat) (a_m_lanes : Nat) (a_m_lengths : Nat) (a_m_sheetCells : Nat) (sz : Nat) (m_toldOnce : Int32) (m_taped : Int32) (m_fault : Int32) (m_broken : Int32) (m_brokenAt : Int32) (m_spot : Int32) (m_here : Int32) (m_token : Int32) (m_value : Int32) (m_silent : Int32) (m_greatest : Int32) (m_moves : Int32) (m_holders : Int32) (m_seenMany : Int32) (m_torn : Int32) (m_state : Nat → Int32) (u1 : Int32) (out : Int32) (h : p_X6_pointOn u1 m_state = some out) : zMi l yX6_pointOn wsX6_pointOn 0 0 G k tL tM sK sV [.ref a_m, .int u1] [(a_m, .inr (6, [.ref a_m_state, .ref a_m_readPage, .int m_toldOnce, .ref a_m_tape, .int m_taped, .int m_fault, .int m_broken, .int m_brokenAt, .int m_spot, .int m_here, .int m_token, .int m_value, .ref a_m_cuts, .ref a_m_letters, .int m_silent, .int m_greatest, .int m_moves, .int m_holders, .ref a_m_seen, .int m_seenMany, .ref a_m_pointBy, .ref a_m_isKept, .ref a_m_lanes, .ref a_m_lengths, .ref a_m_sheetCells, .int m_torn])), (a_m_state, .inl (k 0, 156, .inl m_state))] [(a_m, .inr (6, [.ref a_m_state, .ref a_m_readPage, .int m_toldOnce, .ref a_m_tape, .int m_taped, .int m_fault, .int m_broken, .int m_brokenAt, .int m_spot, .int m_here, .int m_token, .int m_value, .ref a_m_cuts, .ref a_m_letters, .int m_silent, .int m_greatest, .int m_moves, .int m_holders, .ref a_m_seen, .int m_seenMany, .ref a_m_pointBy, .ref a_m_isKept, .ref a_m_lanes, .ref a_m_lengths, .ref a_m_sheetCells, .int m_torn])), (a_m_state, .inl (k 0, 156, .inl m_state))] out sz := by
  refine z_meti (cc := cX6_pointOn) (maxL := 2) (by decide) rfl (Nat.le_of_ble_eq_true rfl) ?_
  intro p e s m below meth c A Q H locs ls hx hb hml hts hown hA hK hE hret hP hD hS hl
  have hown : s.vm.findClass RX6 = some m.cls := hown
  have hl : lv_has ls 2 [(0, .ref a_m), (1, .int u1)] := hl
  unfold p_X6_pointOn at h
  refine lv_aload_n hx hb dX6_pointOn_0 rfl (lv_at hl 0 rfl) ?_
  refine va_get (D := G) (ci := 6) (v := .ref a_m_state) (C := RX6) (T := TX6) (N := 26) hx hb hts iw_X6_pointOn_X6 hown hK hP 0 rfl rfl 0 (by decide) (hts (.fieldLink RX6 7 "SpireLeanModel" "state" "[I") (List.mem_of_getElem? (i := 1) rfl)) (fun _ h9 => h9) rfl dX6_pointOn_1 ?_
  refine lv_iload_n hx hb dX6_pointOn_4 rfl (lv_at hl 1 rfl) ?_
  refine lv_bipush (v := 22) hx hb dX6_pointOn_5 (by decide) ?_
  refine lv_iadd hx hb dX6_pointOn_7 ?_
  obtain ⟨v1, hv, h⟩ := zb h
  refine z_iald hx hb hK hP 1 0 rfl rfl hv dX6_pointOn_8 ?_
  refine lv_bipush (v := 44) hx hb dX6_pointOn_9 (by decide) ?_
  refine lv_iadd hx hb dX6_pointOn_11 ?_
  have hr := (zs h)
  subst hr
  exact hret H locs ls 12 hP hS dX6_pointOn_12
theorem iw_X6_leanOn_X6 : ∀ w ∈ wsX60, w ∈ wsX6_leanOn := fun _ h => List.mem_cons_of_mem _ (List.mem_append_right _ h)
set_option maxHeartbeats 4000000 in
set_option maxRecDepth 100000 in
theorem c_X6_leanOn (l : Launch) (G : va_G) (k : Nat → ClassId) (tL tM : Nat) (sK sV : Nat → Nat) (a_m : Nat) (a_m_state : Nat) (a_m_readPage : Nat) (a_m_tape : Nat) (a_m_cuts : Nat) (a_m_letters : Nat) (a_m_seen : Nat) (a_m_pointBy : Nat) (a_m_isKept : Nat) (a_m_lanes : Nat) (a_m_lengths : Nat) (a_m_sheetCells : Nat) (sz : Nat) (m_toldOnce : Int32) (m_taped : Int32) (m_fault : Int32) (m_broken : Int32) (m_brokenAt : Int32) (m_spot : Int32) (m_here : Int32) (m_token : Int32) (m_value : Int32) (m_silent : Int32) (m_greatest : Int32) (m_moves : Int32) (m_holders : Int32) (m_seenMany : Int32) (m_torn : Int32) (m_state : Nat → Int32) (u1 : Int32) (out : Int32) (h : p_X6_leanOn u1 m_state = some out) : zMi l yX6_leanOn wsX6_leanOn 2 42 G k tL tM sK sV [.ref a_m, .int u1] [(a_m, .inr (6, [.ref a_m_state, .ref a_m_readPage, .int m_toldOnce, .ref a_m_tape, .int m_taped, .int m_fault, .int m_broken, .int m_brokenAt, .int m_spot, .int m_here, .int m_token, .int m_value, .ref a_m_cuts, .ref a_m_letters, .int m_silent, .int m_greatest, .int m_moves, .int m_holders, .ref a_m_seen, .int m_seenMany, .ref a_m_pointBy, .ref a_m_isKept, .ref a_m_lanes, .ref a_m_lengths, .ref a_m_sheetCells, .int m_torn])), (a_m_state, .inl (k 0, 156, .inl m_state))] [(a_m, .inr (6, [.ref a_m_state, .ref a_m_readPage, .int m_toldOnce, .ref a_m_tape, .int m_taped, .int m_fault, .int m_broken, .int m_brokenAt, .int m_spot, .int m_here, .int m_token, .int m_value, .ref a_m_cuts, .ref a_m_letters, .int m_silent, .int m_greatest, .int m_moves, .int m_holders, .ref a_m_seen, .int m_seenMany, .ref a_m_pointBy, .ref a_m_isKept, .ref a_m_lanes, .ref a_m_lengths, .ref a_m_sheetCells, .int m_torn])), (a_m_state, .inl (k 0, 156, .inl m_state))] out sz := by
  refine z_meti (cc := cX6_leanOn) (maxL := 2) (by decide) rfl (Nat.le_of_ble_eq_true rfl) ?_
  intro p e s m below meth c A Q H locs ls hx hb hml hts hown hA hK hE hret hP hD hS hl
  have hown : s.vm.findClass RX6 = some m.cls := hown
  have hl : lv_has ls 2 [(0, .ref a_m), (1, .int u1)] := hl
  unfold p_X6_leanOn at h
  refine lv_aload_n hx hb dX6_leanOn_0 rfl (lv_at hl 0 rfl) ?_
  refine lv_iload_n hx hb dX6_leanOn_1 rfl (lv_at hl 1 rfl) ?_
  obtain ⟨o1, hv, h⟩ := zb h
  refine z_goi (w2 := [(a_m, .inr (6, [.ref a_m_state, .ref a_m_readPage, .int m_toldOnce, .ref a_m_tape, .int m_taped, .int m_fault, .int m_broken, .int m_brokenAt, .int m_spot, .int m_here, .int m_token, .int m_value, .ref a_m_cuts, .ref a_m_letters, .int m_silent, .int m_greatest, .int m_moves, .int m_holders, .ref a_m_seen, .int m_seenMany, .ref a_m_pointBy, .ref a_m_isKept, .ref a_m_lanes, .ref a_m_lengths, .ref a_m_sheetCells, .int m_torn])), (a_m_state, .inl (k 0, 156, .inl m_state))]) [0, 1] (va_runV (As := [.int u1]) (rest := []) ⟨hx, hb, hml, hown, hts⟩ (c_X6_pointOn l G k tL tM sK sV a_m a_m_state a_m_readPage a_m_tape a_m_cuts a_m_letters a_m_seen a_m_pointBy a_m_isKept a_m_lanes a_m_lengths a_m_sheetCells H.size m_toldOnce m_taped m_fault m_broken m_brokenAt m_spot m_here m_token m_value m_silent m_greatest m_moves m_holders m_seenMany m_torn m_state u1 o1 hv) (cwV 1 hts gX6_leanOn_X6_pointOn rfl rfl rfl (by decide +kernel) ⟨Nat.le_of_ble_eq_true rfl, Nat.le_of_ble_eq_true rfl⟩) (z_preV (wc := [(a_m, .inr (6, [.ref a_m_state, .ref a_m_readPage, .int m_toldOnce, .ref a_m_tape, .int m_taped, .int m_fault, .int m_broken, .int m_brokenAt, .int m_spot, .int m_here, .int m_token, .int m_value, .ref a_m_cuts, .ref a_m_letters, .int m_silent, .int m_greatest, .int m_moves, .int m_holders, .ref a_m_seen, .int m_seenMany, .ref a_m_pointBy, .ref a_m_isKept, .ref a_m_lanes, .ref a_m_lengths, .ref a_m_sheetCells, .int m_torn])), (a_m_state, .inl (k 0, 156, .inl m_state))]) [0, 1] 0 6 hK hE hA hP hD hS (by decide) rfl rfl rfl) rfl rfl hl.1 rfl (lv_room (Nat.le_of_ble_eq_true rfl)) dX6_leanOn_2 ⟨Nat.le_refl _, Nat.le_refl _⟩) hA hP hD hS rfl rfl rfl rfl (fun H locs hP hD hS => ?_)
  refine lv_aload_n hx hb dX6_leanOn_5 rfl (lv_at hl 0 rfl) ?_
  refine va_get (D := G) (ci := 6) (v := .ref a_m_state) (C := RX6) (T := TX6) (N := 26) hx hb hts iw_X6_leanOn_X6 hown hK hP 0 rfl rfl 0 (by decide) (hts (.fieldLink RX6 7 "SpireLeanModel" "state" "[I") (List.mem_of_getElem? (i := 1) rfl)) (fun _ h9 => h9) rfl dX6_leanOn_6 ?_
  refine lv_iload_n hx hb dX6_leanOn_9 rfl (lv_at hl 1 rfl) ?_
  refine lv_bipush (v := 21) hx hb dX6_leanOn_10 (by decide) ?_
  refine lv_iadd hx hb dX6_leanOn_12 ?_
  obtain ⟨v2, hv, h⟩ := zb h
  refine z_iald hx hb hK hP 1 0 rfl rfl hv dX6_leanOn_13 ?_
  refine lv_bipush (v := 44) hx hb dX6_leanOn_14 (by decide) ?_
  refine lv_iadd hx hb dX6_leanOn_16 ?_
  obtain ⟨o3, hv, h⟩ := zb h
  refine z_goi (w2 := [(a_m, .inr (6, [.ref a_m_state, .ref a_m_readPage, .int m_toldOnce, .ref a_m_tape, .int m_taped, .int m_fault, .int m_broken, .int m_brokenAt, .int m_spot, .int m_here, .int m_token, .int m_value, .ref a_m_cuts, .ref a_m_letters, .int m_silent, .int m_greatest, .int m_moves, .int m_holders, .ref a_m_seen, .int m_seenMany, .ref a_m_pointBy, .ref a_m_isKept, .ref a_m_lanes, .ref a_m_lengths, .ref a_m_sheetCells, .int m_torn])), (a_m_state, .inl (k 0, 156, .inl m_state))]) [] (va_runS (As := [.int o1, .int (v2 + (44 : Int32))]) (rest := []) ⟨hx, hb, hml, hown, hts⟩ (c_X6_farOf l G k tL tM sK sV H.size o1 (v2 + (44 : Int32)) o3 hv) (va_cwS 2 hts gX6_leanOn_X6_farOf rfl rfl rfl (by decide +kernel) ⟨Nat.le_of_ble_eq_true rfl, Nat.le_of_ble_eq_true rfl⟩) (z_preS (wc := []) [] hK hE hA hP hD hS (by decide) rfl) rfl rfl hl.1 rfl (lv_room (Nat.le_of_ble_eq_true rfl)) dX6_leanOn_17 ⟨Nat.le_refl _, Nat.le_refl _⟩) hA hP hD hS rfl rfl rfl rfl (fun H locs hP hD hS => ?_)
  have hr := (zs h)
  subst hr
  exact hret H locs ls 20 hP hS dX6_leanOn_20
theorem iw_X6_isFallenOn_X6 : ∀ w ∈ wsX60, w ∈ wsX6_isFallenOn := fun _ h => List.mem_cons_of_mem _ (List.mem_append_right _ h)
set_option maxHeartbeats 4000000 in
set_option maxRecDepth 100000 in
theorem c_X6_isFallenOn (l : Launch) (G : va_G) (k : Nat → ClassId) (tL tM : Nat) (sK sV : Nat → Nat) (a_m : Nat) (a_m_state : Nat) (a_m_readPage : Nat) (a_m_tape : Nat) (a_m_cuts : Nat) (a_m_letters : Nat) (a_m_seen : Nat) (a_m_pointBy : Nat) (a_m_isKept : Nat) (a_m_lanes : Nat) (a_m_lengths : Nat) (a_m_sheetCells : Nat) (sz : Nat) (m_toldOnce : Int32) (m_taped : Int32) (m_fault : Int32) (m_broken : Int32) (m_brokenAt : Int32) (m_spot : Int32) (m_here : Int32) (m_token : Int32) (m_value : Int32) (m_silent : Int32) (m_greatest : Int32) (m_moves : Int32) (m_holders : Int32) (m_seenMany : Int32) (m_torn : Int32) (m_state : Nat → Int32) (u1 : Int32) (out : Int32) (h : p_X6_isFallenOn u1 m_state = some out) : zMi l yX6_isFallenOn wsX6_isFallenOn 3 63 G k tL tM sK sV [.ref a_m, .int u1] [(a_m, .inr (6, [.ref a_m_state, .ref a_m_readPage, .int m_toldOnce, .ref a_m_tape, .int m_taped, .int m_fault, .int m_broken, .int m_brokenAt, .int m_spot, .int m_here, .int m_token, .int m_value, .ref a_m_cuts, .ref a_m_letters, .int m_silent, .int m_greatest, .int m_moves, .int m_holders, .ref a_m_seen, .int m_seenMany, .ref a_m_pointBy, .ref a_m_isKept, .ref a_m_lanes, .ref a_m_lengths, .ref a_m_sheetCells, .int m_torn])), (a_m_state, .inl (k 0, 156, .inl m_state))] [(a_m, .inr (6, [.ref a_m_state, .ref a_m_readPage, .int m_toldOnce, .ref a_m_tape, .int m_taped, .int m_fault, .int m_broken, .int m_brokenAt, .int m_spot, .int m_here, .int m_token, .int m_value, .ref a_m_cuts, .ref a_m_letters, .int m_silent, .int m_greatest, .int m_moves, .int m_holders, .ref a_m_seen, .int m_seenMany, .ref a_m_pointBy, .ref a_m_isKept, .ref a_m_lanes, .ref a_m_lengths, .ref a_m_sheetCells, .int m_torn])), (a_m_state, .inl (k 0, 156, .inl m_state))] out sz := by
  refine z_metz (cc := cX6_isFallenOn) (maxL := 2) (by decide) rfl (Nat.le_of_ble_eq_true rfl) ?_
  intro p e s m below meth c A Q H locs ls hx hb hml hts hown hA hK hE hret hP hD hS hl
  have hown : s.vm.findClass RX6 = some m.cls := hown
  have hl : lv_has ls 2 [(0, .ref a_m), (1, .int u1)] := hl
  unfold p_X6_isFallenOn at h
  refine lv_aload_n hx hb dX6_isFallenOn_0 rfl (lv_at hl 0 rfl) ?_
  refine lv_iload_n hx hb dX6_isFallenOn_1 rfl (lv_at hl 1 rfl) ?_
  obtain ⟨o1, hv, h⟩ := zb h
  refine z_goi (w2 := [(a_m, .inr (6, [.ref a_m_state, .ref a_m_readPage, .int m_toldOnce, .ref a_m_tape, .int m_taped, .int m_fault, .int m_broken, .int m_brokenAt, .int m_spot, .int m_here, .int m_token, .int m_value, .ref a_m_cuts, .ref a_m_letters, .int m_silent, .int m_greatest, .int m_moves, .int m_holders, .ref a_m_seen, .int m_seenMany, .ref a_m_pointBy, .ref a_m_isKept, .ref a_m_lanes, .ref a_m_lengths, .ref a_m_sheetCells, .int m_torn])), (a_m_state, .inl (k 0, 156, .inl m_state))]) [0, 1] (va_runV (As := [.int u1]) (rest := []) ⟨hx, hb, hml, hown, hts⟩ (c_X6_leanOn l G k tL tM sK sV a_m a_m_state a_m_readPage a_m_tape a_m_cuts a_m_letters a_m_seen a_m_pointBy a_m_isKept a_m_lanes a_m_lengths a_m_sheetCells H.size m_toldOnce m_taped m_fault m_broken m_brokenAt m_spot m_here m_token m_value m_silent m_greatest m_moves m_holders m_seenMany m_torn m_state u1 o1 hv) (cwV 1 hts gX6_isFallenOn_X6_leanOn rfl rfl rfl (by decide +kernel) ⟨Nat.le_of_ble_eq_true rfl, Nat.le_of_ble_eq_true rfl⟩) (z_preV (wc := [(a_m, .inr (6, [.ref a_m_state, .ref a_m_readPage, .int m_toldOnce, .ref a_m_tape, .int m_taped, .int m_fault, .int m_broken, .int m_brokenAt, .int m_spot, .int m_here, .int m_token, .int m_value, .ref a_m_cuts, .ref a_m_letters, .int m_silent, .int m_greatest, .int m_moves, .int m_holders, .ref a_m_seen, .int m_seenMany, .ref a_m_pointBy, .ref a_m_isKept, .ref a_m_lanes, .ref a_m_lengths, .ref a_m_sheetCells, .int m_torn])), (a_m_state, .inl (k 0, 156, .inl m_state))]) [0, 1] 0 6 hK hE hA hP hD hS (by decide) rfl rfl rfl) rfl rfl hl.1 rfl (lv_room (Nat.le_of_ble_eq_true rfl)) dX6_isFallenOn_2 ⟨Nat.le_refl _, Nat.le_refl _⟩) hA hP hD hS rfl rfl rfl rfl (fun H locs hP hD hS => ?_)
  refine lv_aload_n hx hb dX6_isFallenOn_5 rfl (lv_at hl 0 rfl) ?_
  refine va_get (D := G) (ci := 6) (v := .ref a_m_state) (C := RX6) (T := TX6) (N := 26) hx hb hts iw_X6_isFallenOn_X6 hown hK hP 0 rfl rfl 0 (by decide) (hts (.fieldLink RX6 7 "SpireLeanModel" "state" "[I") (List.mem_of_getElem? (i := 1) rfl)) (fun _ h9 => h9) rfl dX6_isFallenOn_6 ?_
  refine lv_iload_n hx hb dX6_isFallenOn_9 rfl (lv_at hl 1 rfl) ?_
  refine lv_bipush (v := 24) hx hb dX6_isFallenOn_10 (by decide) ?_
  refine lv_iadd hx hb dX6_isFallenOn_12 ?_
  obtain ⟨v2, hv, h⟩ := zb h
  refine z_iald hx hb hK hP 1 0 rfl rfl hv dX6_isFallenOn_13 ?_
  refine lv_bipush (v := 9) hx hb dX6_isFallenOn_14 (by decide) ?_
  refine lv_iadd hx hb dX6_isFallenOn_16 ?_
  refine lv_icmp_le (tgt := 24) hx hb dX6_isFallenOn_17 (by decide) (fun c3 => ?_) (fun c3 => ?_)
  · have h := zit c3 h
    refine lv_iconst (v := 0) hx hb dX6_isFallenOn_24 (by decide) ?_
    have hr := (zs h)
    subst hr
    exact hret H locs ls 25 (Or.inl rfl) hP hS dX6_isFallenOn_25
  · have h := zif c3 h
    refine lv_iconst (v := 1) hx hb dX6_isFallenOn_20 (by decide) ?_
    refine lv_goto (tgt := 25) hx hb dX6_isFallenOn_21 (by decide) ?_
    have hr := (zs h)
    subst hr
    exact hret H locs ls 25 (Or.inr rfl) hP hS dX6_isFallenOn_25
theorem iw_X6_strengthOn_X6 : ∀ w ∈ wsX60, w ∈ wsX6_strengthOn := fun _ h => List.mem_cons_of_mem _ (List.mem_append_right _ h)
set_option maxHeartbeats 4000000 in
set_option maxRecDepth 100000 in
theorem c_X6_strengthOn (l : Launch) (G : va_G) (k : Nat → ClassId) (tL tM : Nat) (sK sV : Nat → Nat) (a_m : Nat) (a_m_state : Nat) (a_m_readPage : Nat) (a_m_tape : Nat) (a_m_cuts : Nat) (a_m_letters : Nat) (a_m_seen : Nat) (a_m_pointBy : Nat) (a_m_isKept : Nat) (a_m_lanes : Nat) (a_m_lengths : Nat) (a_m_sheetCells : Nat) (sz : Nat) (m_toldOnce : Int32) (m_taped : Int32) (m_fault : Int32) (m_broken : Int32) (m_brokenAt : Int32) (m_spot : Int32) (m_here : Int32) (m_token : Int32) (m_value : Int32) (m_silent : Int32) (m_greatest : Int32) (m_moves : Int32) (m_holders : Int32) (m_seenMany : Int32) (m_torn : Int32) (m_state : Nat → Int32) (u1 : Int32) (u2 : Int32) (out : Int32) (h : p_X6_strengthOn u1 u2 m_state = some out) : zMi l yX6_strengthOn wsX6_strengthOn 0 0 G k tL tM sK sV [.ref a_m, .int u1, .int u2] [(a_m, .inr (6, [.ref a_m_state, .ref a_m_readPage, .int m_toldOnce, .ref a_m_tape, .int m_taped, .int m_fault, .int m_broken, .int m_brokenAt, .int m_spot, .int m_here, .int m_token, .int m_value, .ref a_m_cuts, .ref a_m_letters, .int m_silent, .int m_greatest, .int m_moves, .int m_holders, .ref a_m_seen, .int m_seenMany, .ref a_m_pointBy, .ref a_m_isKept, .ref a_m_lanes, .ref a_m_lengths, .ref a_m_sheetCells, .int m_torn])), (a_m_state, .inl (k 0, 156, .inl m_state))] [(a_m, .inr (6, [.ref a_m_state, .ref a_m_readPage, .int m_toldOnce, .ref a_m_tape, .int m_taped, .int m_fault, .int m_broken, .int m_brokenAt, .int m_spot, .int m_here, .int m_token, .int m_value, .ref a_m_cuts, .ref a_m_letters, .int m_silent, .int m_greatest, .int m_moves, .int m_holders, .ref a_m_seen, .int m_seenMany, .ref a_m_pointBy, .ref a_m_isKept, .ref a_m_lanes, .ref a_m_lengths, .ref a_m_sheetCells, .int m_torn])), (a_m_state, .inl (k 0, 156, .inl m_state))] out sz := by
  refine z_meti (cc := cX6_strengthOn) (maxL := 6) (by decide) rfl (Nat.le_of_ble_eq_true rfl) ?_
  intro p e s m below meth c A Q H locs ls hx hb hml hts hown hA hK hE hret hP hD hS hl
  have hown : s.vm.findClass RX6 = some m.cls := hown
  have hl : lv_has ls 6 [(0, .ref a_m), (1, .int u1), (2, .int u2)] := hl
  unfold p_X6_strengthOn at h
  refine lv_aload_n hx hb dX6_strengthOn_0 rfl (lv_at hl 0 rfl) ?_
  refine va_get (D := G) (ci := 6) (v := .ref a_m_state) (C := RX6) (T := TX6) (N := 26) hx hb hts iw_X6_strengthOn_X6 hown hK hP 0 rfl rfl 0 (by decide) (hts (.fieldLink RX6 7 "SpireLeanModel" "state" "[I") (List.mem_of_getElem? (i := 1) rfl)) (fun _ h9 => h9) rfl dX6_strengthOn_1 ?_
  refine lv_iload_n hx hb dX6_strengthOn_4 rfl (lv_at hl 1 rfl) ?_
  refine lv_iload_n hx hb dX6_strengthOn_5 rfl (lv_at hl 2 rfl) ?_
  refine lv_iadd hx hb dX6_strengthOn_6 ?_
  obtain ⟨v1, hv, h⟩ := zb h
  refine z_iald hx hb hK hP 1 0 rfl rfl hv dX6_strengthOn_7 ?_
  refine lv_istore_n (lv' := [(3, .int v1), (0, .ref a_m), (1, .int u1), (2, .int u2)]) hx hb dX6_strengthOn_8 rfl hl (by decide) rfl (fun ls hl => ?_)
  refine lv_aload_n hx hb dX6_strengthOn_9 rfl (lv_at hl 1 rfl) ?_
  refine va_get (D := G) (ci := 6) (v := .ref a_m_state) (C := RX6) (T := TX6) (N := 26) hx hb hts iw_X6_strengthOn_X6 hown hK hP 0 rfl rfl 0 (by decide) (hts (.fieldLink RX6 7 "SpireLeanModel" "state" "[I") (List.mem_of_getElem? (i := 1) rfl)) (fun _ h9 => h9) rfl dX6_strengthOn_10 ?_
  refine lv_iload_n hx hb dX6_strengthOn_13 rfl (lv_at hl 2 rfl) ?_
  refine lv_iconst (v := 5) hx hb dX6_strengthOn_14 (by decide) ?_
  refine lv_iadd hx hb dX6_strengthOn_15 ?_
  refine lv_iload_n hx hb dX6_strengthOn_16 rfl (lv_at hl 3 rfl) ?_
  refine lv_iadd hx hb dX6_strengthOn_17 ?_
  obtain ⟨v2, hv, h⟩ := zb h
  refine z_iald hx hb hK hP 1 0 rfl rfl hv dX6_strengthOn_18 ?_
  refine lv_istore (lv' := [(4, .int v2), (3, .int v1), (0, .ref a_m), (1, .int u1), (2, .int u2)]) hx hb dX6_strengthOn_19 hl (by decide) rfl (fun ls hl => ?_)
  refine lv_iload hx hb dX6_strengthOn_21 (lv_at hl 0 rfl) ?_
  refine lv_iconst (v := 1) hx hb dX6_strengthOn_23 (by decide) ?_
  refine lv_iadd hx hb dX6_strengthOn_24 ?_
  refine lv_iconst (v := 2) hx hb dX6_strengthOn_25 (by decide) ?_
  refine lv_idiv hx hb dX6_strengthOn_26 (by decide) ?_
  refine lv_istore (lv' := [(5, .int ((v2 + (1 : Int32)) / (2 : Int32))), (4, .int v2), (3, .int v1), (0, .ref a_m), (1, .int u1), (2, .int u2)]) hx hb dX6_strengthOn_27 hl (by decide) rfl (fun ls hl => ?_)
  refine lv_iload_n hx hb dX6_strengthOn_29 rfl (lv_at hl 2 rfl) ?_
  refine lv_if_ne (tgt := 38) hx hb dX6_strengthOn_30 (by decide) (fun c5 => ?_) (fun c5 => ?_)
  · have h := zif c5 h
    refine lv_iload_n hx hb dX6_strengthOn_38 rfl (lv_at hl 2 rfl) ?_
    refine lv_iconst (v := 1) hx hb dX6_strengthOn_39 (by decide) ?_
    refine lv_icmp_ne (tgt := 48) hx hb dX6_strengthOn_40 (by decide) (fun c4 => ?_) (fun c4 => ?_)
    · have h := zif c4 h
      refine lv_iload_n hx hb dX6_strengthOn_48 rfl (lv_at hl 2 rfl) ?_
      refine lv_iconst (v := 2) hx hb dX6_strengthOn_49 (by decide) ?_
      refine lv_icmp_ne (tgt := 60) hx hb dX6_strengthOn_50 (by decide) (fun c3 => ?_) (fun c3 => ?_)
      · have h := zif c3 h
        refine lv_iconst (v := 3) hx hb dX6_strengthOn_60 (by decide) ?_
        refine lv_iload hx hb dX6_strengthOn_61 (lv_at hl 0 rfl) ?_
        refine lv_imul hx hb dX6_strengthOn_63 ?_
        have hr := (zs h)
        subst hr
        exact hret H locs ls 64 hP hS dX6_strengthOn_64
      · have h := zit c3 h
        refine lv_iload hx hb dX6_strengthOn_53 (lv_at hl 0 rfl) ?_
        refine lv_iconst (v := 1) hx hb dX6_strengthOn_55 (by decide) ?_
        refine lv_iadd hx hb dX6_strengthOn_56 ?_
        refine lv_goto (tgt := 64) hx hb dX6_strengthOn_57 (by decide) ?_
        have hr := (zs h)
        subst hr
        exact hret H locs ls 64 hP hS dX6_strengthOn_64
    · have h := zit c4 h
      refine lv_iload hx hb dX6_strengthOn_43 (lv_at hl 0 rfl) ?_
      refine lv_goto (tgt := 64) hx hb dX6_strengthOn_45 (by decide) ?_
      have hr := (zs h)
      subst hr
      exact hret H locs ls 64 hP hS dX6_strengthOn_64
  · have h := zit c5 h
    refine lv_iload hx hb dX6_strengthOn_33 (lv_at hl 1 rfl) ?_
    refine lv_goto (tgt := 64) hx hb dX6_strengthOn_35 (by decide) ?_
    have hr := (zs h)
    subst hr
    exact hret H locs ls 64 hP hS dX6_strengthOn_64
theorem iw_X6_forceOn_X6 : ∀ w ∈ wsX60, w ∈ wsX6_forceOn := fun _ h => List.mem_cons_of_mem _ (List.mem_append_right _ h)
set_option maxHeartbeats 4000000 in
set_option maxRecDepth 100000 in
theorem c_X6_forceOn (l : Launch) (G : va_G) (k : Nat → ClassId) (tL tM : Nat) (sK sV : Nat → Nat) (a_m : Nat) (a_m_state : Nat) (a_m_readPage : Nat) (a_m_tape : Nat) (a_m_cuts : Nat) (a_m_letters : Nat) (a_m_seen : Nat) (a_m_pointBy : Nat) (a_m_isKept : Nat) (a_m_lanes : Nat) (a_m_lengths : Nat) (a_m_sheetCells : Nat) (sz : Nat) (m_toldOnce : Int32) (m_taped : Int32) (m_fault : Int32) (m_broken : Int32) (m_brokenAt : Int32) (m_spot : Int32) (m_here : Int32) (m_token : Int32) (m_value : Int32) (m_silent : Int32) (m_greatest : Int32) (m_moves : Int32) (m_holders : Int32) (m_seenMany : Int32) (m_torn : Int32) (m_state : Nat → Int32) (u1 : Int32) (u2 : Int32) (out : Int32) (h : p_X6_forceOn u1 u2 m_silent m_state = some out) : zMi l yX6_forceOn wsX6_forceOn 2 42 G k tL tM sK sV [.ref a_m, .int u1, .int u2] [(a_m, .inr (6, [.ref a_m_state, .ref a_m_readPage, .int m_toldOnce, .ref a_m_tape, .int m_taped, .int m_fault, .int m_broken, .int m_brokenAt, .int m_spot, .int m_here, .int m_token, .int m_value, .ref a_m_cuts, .ref a_m_letters, .int m_silent, .int m_greatest, .int m_moves, .int m_holders, .ref a_m_seen, .int m_seenMany, .ref a_m_pointBy, .ref a_m_isKept, .ref a_m_lanes, .ref a_m_lengths, .ref a_m_sheetCells, .int m_torn])), (a_m_state, .inl (k 0, 156, .inl m_state))] [(a_m, .inr (6, [.ref a_m_state, .ref a_m_readPage, .int m_toldOnce, .ref a_m_tape, .int m_taped, .int m_fault, .int m_broken, .int m_brokenAt, .int m_spot, .int m_here, .int m_token, .int m_value, .ref a_m_cuts, .ref a_m_letters, .int m_silent, .int m_greatest, .int m_moves, .int m_holders, .ref a_m_seen, .int m_seenMany, .ref a_m_pointBy, .ref a_m_isKept, .ref a_m_lanes, .ref a_m_lengths, .ref a_m_sheetCells, .int m_torn])), (a_m_state, .inl (k 0, 156, .inl m_state))] out sz := by
  refine z_meti (cc := cX6_forceOn) (maxL := 3) (by decide) rfl (Nat.le_of_ble_eq_true rfl) ?_
  intro p e s m below meth c A Q H locs ls hx hb hml hts hown hA hK hE hret hP hD hS hl
  have hown : s.vm.findClass RX6 = some m.cls := hown
  have hl : lv_has ls 3 [(0, .ref a_m), (1, .int u1), (2, .int u2)] := hl
  unfold p_X6_forceOn at h
  refine lv_iload_n hx hb dX6_forceOn_0 rfl (lv_at hl 2 rfl) ?_
  refine lv_aload_n hx hb dX6_forceOn_1 rfl (lv_at hl 0 rfl) ?_
  refine va_get (D := G) (ci := 6) (v := .int m_silent) (C := RX6) (T := TX6) (N := 26) hx hb hts iw_X6_forceOn_X6 hown hK hP 0 rfl rfl 14 (by decide) (hts (.fieldLink RX6 25 "SpireLeanModel" "silent" "I") (List.mem_of_getElem? (i := 1) rfl)) (fun _ h9 => h9) rfl dX6_forceOn_2 ?_
  refine lv_icmp_eq (tgt := 31) hx hb dX6_forceOn_5 (by decide) (fun c9 => ?_) (fun c9 => ?_)
  · have h := zit c9 h
    refine lv_iconst (v := 0) hx hb dX6_forceOn_31 (by decide) ?_
    have hr := (zs h)
    subst hr
    exact hret H locs ls 32 hP hS dX6_forceOn_32
  · have h := zif c9 h
    refine lv_aload_n hx hb dX6_forceOn_8 rfl (lv_at hl 0 rfl) ?_
    refine va_get (D := G) (ci := 6) (v := .ref a_m_state) (C := RX6) (T := TX6) (N := 26) hx hb hts iw_X6_forceOn_X6 hown hK hP 0 rfl rfl 0 (by decide) (hts (.fieldLink RX6 7 "SpireLeanModel" "state" "[I") (List.mem_of_getElem? (i := 2) rfl)) (fun _ h9 => h9) rfl dX6_forceOn_9 ?_
    refine lv_iload_n hx hb dX6_forceOn_12 rfl (lv_at hl 1 rfl) ?_
    refine lv_bipush (v := 25) hx hb dX6_forceOn_13 (by decide) ?_
    refine lv_iadd hx hb dX6_forceOn_15 ?_
    obtain ⟨v1, hv, h⟩ := zb h
    refine z_iald hx hb hK hP 1 0 rfl rfl hv dX6_forceOn_16 ?_
    refine lv_aload_n hx hb dX6_forceOn_17 rfl (lv_at hl 0 rfl) ?_
    refine va_get (D := G) (ci := 6) (v := .ref a_m_state) (C := RX6) (T := TX6) (N := 26) hx hb hts iw_X6_forceOn_X6 hown hK hP 0 rfl rfl 0 (by decide) (hts (.fieldLink RX6 7 "SpireLeanModel" "state" "[I") (List.mem_of_getElem? (i := 2) rfl)) (fun _ h9 => h9) rfl dX6_forceOn_18 ?_
    refine lv_iload_n hx hb dX6_forceOn_21 rfl (lv_at hl 1 rfl) ?_
    refine lv_bipush (v := 15) hx hb dX6_forceOn_22 (by decide) ?_
    refine lv_iadd hx hb dX6_forceOn_24 ?_
    refine lv_iload_n hx hb dX6_forceOn_25 rfl (lv_at hl 2 rfl) ?_
    refine lv_iadd hx hb dX6_forceOn_26 ?_
    obtain ⟨v2, hv, h⟩ := zb h
    refine z_iald hx hb hK hP 1 0 rfl rfl hv dX6_forceOn_27 ?_
    refine lv_icmp_ge (tgt := 33) hx hb dX6_forceOn_28 (by decide) (fun c8 => ?_) (fun c8 => ?_)
    · have h := zit c8 h
      refine lv_bipush (v := 60) hx hb dX6_forceOn_33 (by decide) ?_
      refine lv_aload_n hx hb dX6_forceOn_35 rfl (lv_at hl 0 rfl) ?_
      refine lv_iload_n hx hb dX6_forceOn_36 rfl (lv_at hl 1 rfl) ?_
      refine lv_iload_n hx hb dX6_forceOn_37 rfl (lv_at hl 2 rfl) ?_
      obtain ⟨o3, hv, h⟩ := zb h
      refine z_goi (w2 := [(a_m, .inr (6, [.ref a_m_state, .ref a_m_readPage, .int m_toldOnce, .ref a_m_tape, .int m_taped, .int m_fault, .int m_broken, .int m_brokenAt, .int m_spot, .int m_here, .int m_token, .int m_value, .ref a_m_cuts, .ref a_m_letters, .int m_silent, .int m_greatest, .int m_moves, .int m_holders, .ref a_m_seen, .int m_seenMany, .ref a_m_pointBy, .ref a_m_isKept, .ref a_m_lanes, .ref a_m_lengths, .ref a_m_sheetCells, .int m_torn])), (a_m_state, .inl (k 0, 156, .inl m_state))]) [0, 1] (va_runV (As := [.int u1, .int u2]) (rest := [.int (60 : Int32)]) ⟨hx, hb, hml, hown, hts⟩ (c_X6_strengthOn l G k tL tM sK sV a_m a_m_state a_m_readPage a_m_tape a_m_cuts a_m_letters a_m_seen a_m_pointBy a_m_isKept a_m_lanes a_m_lengths a_m_sheetCells H.size m_toldOnce m_taped m_fault m_broken m_brokenAt m_spot m_here m_token m_value m_silent m_greatest m_moves m_holders m_seenMany m_torn m_state u1 u2 o3 hv) (cwV 2 hts gX6_forceOn_X6_strengthOn rfl rfl rfl (by decide +kernel) ⟨Nat.le_of_ble_eq_true rfl, Nat.le_of_ble_eq_true rfl⟩) (z_preV (wc := [(a_m, .inr (6, [.ref a_m_state, .ref a_m_readPage, .int m_toldOnce, .ref a_m_tape, .int m_taped, .int m_fault, .int m_broken, .int m_brokenAt, .int m_spot, .int m_here, .int m_token, .int m_value, .ref a_m_cuts, .ref a_m_letters, .int m_silent, .int m_greatest, .int m_moves, .int m_holders, .ref a_m_seen, .int m_seenMany, .ref a_m_pointBy, .ref a_m_isKept, .ref a_m_lanes, .ref a_m_lengths, .ref a_m_sheetCells, .int m_torn])), (a_m_state, .inl (k 0, 156, .inl m_state))]) [0, 1] 0 6 hK hE hA hP hD hS (by decide) rfl rfl rfl) rfl rfl hl.1 rfl (lv_room (Nat.le_of_ble_eq_true rfl)) dX6_forceOn_38 ⟨Nat.le_refl _, Nat.le_refl _⟩) hA hP hD hS rfl rfl rfl rfl (fun H locs hP hD hS => ?_)
      refine lv_imul hx hb dX6_forceOn_41 ?_
      refine lv_iconst (v := 1) hx hb dX6_forceOn_42 (by decide) ?_
      refine lv_aload_n hx hb dX6_forceOn_43 rfl (lv_at hl 0 rfl) ?_
      refine va_get (D := G) (ci := 6) (v := .ref a_m_state) (C := RX6) (T := TX6) (N := 26) hx hb hts iw_X6_forceOn_X6 hown hK hP 0 rfl rfl 0 (by decide) (hts (.fieldLink RX6 7 "SpireLeanModel" "state" "[I") (List.mem_of_getElem? (i := 2) rfl)) (fun _ h9 => h9) rfl dX6_forceOn_44 ?_
      refine lv_iload_n hx hb dX6_forceOn_47 rfl (lv_at hl 1 rfl) ?_
      refine lv_bipush (v := 10) hx hb dX6_forceOn_48 (by decide) ?_
      refine lv_iadd hx hb dX6_forceOn_50 ?_
      refine lv_iload_n hx hb dX6_forceOn_51 rfl (lv_at hl 2 rfl) ?_
      refine lv_iadd hx hb dX6_forceOn_52 ?_
      obtain ⟨v4, hv, h⟩ := zb h
      refine z_iald hx hb hK hP 1 0 rfl rfl hv dX6_forceOn_53 ?_
      refine lv_aload_n hx hb dX6_forceOn_54 rfl (lv_at hl 0 rfl) ?_
      refine lv_iload_n hx hb dX6_forceOn_55 rfl (lv_at hl 1 rfl) ?_
      obtain ⟨o5, hv, h⟩ := zb h
      refine z_goi (w2 := [(a_m, .inr (6, [.ref a_m_state, .ref a_m_readPage, .int m_toldOnce, .ref a_m_tape, .int m_taped, .int m_fault, .int m_broken, .int m_brokenAt, .int m_spot, .int m_here, .int m_token, .int m_value, .ref a_m_cuts, .ref a_m_letters, .int m_silent, .int m_greatest, .int m_moves, .int m_holders, .ref a_m_seen, .int m_seenMany, .ref a_m_pointBy, .ref a_m_isKept, .ref a_m_lanes, .ref a_m_lengths, .ref a_m_sheetCells, .int m_torn])), (a_m_state, .inl (k 0, 156, .inl m_state))]) [0, 1] (va_runV (As := [.int u1]) (rest := [.int v4, .int (1 : Int32), .int ((60 : Int32) * o3)]) ⟨hx, hb, hml, hown, hts⟩ (c_X6_pointOn l G k tL tM sK sV a_m a_m_state a_m_readPage a_m_tape a_m_cuts a_m_letters a_m_seen a_m_pointBy a_m_isKept a_m_lanes a_m_lengths a_m_sheetCells H.size m_toldOnce m_taped m_fault m_broken m_brokenAt m_spot m_here m_token m_value m_silent m_greatest m_moves m_holders m_seenMany m_torn m_state u1 o5 hv) (cwV 1 hts gX6_forceOn_X6_pointOn rfl rfl rfl (by decide +kernel) ⟨Nat.le_of_ble_eq_true rfl, Nat.le_of_ble_eq_true rfl⟩) (z_preV (wc := [(a_m, .inr (6, [.ref a_m_state, .ref a_m_readPage, .int m_toldOnce, .ref a_m_tape, .int m_taped, .int m_fault, .int m_broken, .int m_brokenAt, .int m_spot, .int m_here, .int m_token, .int m_value, .ref a_m_cuts, .ref a_m_letters, .int m_silent, .int m_greatest, .int m_moves, .int m_holders, .ref a_m_seen, .int m_seenMany, .ref a_m_pointBy, .ref a_m_isKept, .ref a_m_lanes, .ref a_m_lengths, .ref a_m_sheetCells, .int m_torn])), (a_m_state, .inl (k 0, 156, .inl m_state))]) [0, 1] 0 6 hK hE hA hP hD hS (by decide) rfl rfl rfl) rfl rfl hl.1 rfl (lv_room (Nat.le_of_ble_eq_true rfl)) dX6_forceOn_56 ⟨Nat.le_refl _, Nat.le_refl _⟩) hA hP hD hS rfl rfl rfl rfl (fun H locs hP hD hS => ?_)
      obtain ⟨o6, hv, h⟩ := zb h
      refine z_goi (w2 := [(a_m, .inr (6, [.ref a_m_state, .ref a_m_readPage, .int m_toldOnce, .ref a_m_tape, .int m_taped, .int m_fault, .int m_broken, .int m_brokenAt, .int m_spot, .int m_here, .int m_token, .int m_value, .ref a_m_cuts, .ref a_m_letters, .int m_silent, .int m_greatest, .int m_moves, .int m_holders, .ref a_m_seen, .int m_seenMany, .ref a_m_pointBy, .ref a_m_isKept, .ref a_m_lanes, .ref a_m_lengths, .ref a_m_sheetCells, .int m_torn])), (a_m_state, .inl (k 0, 156, .inl m_state))]) [] (va_runS (As := [.int v4, .int o5]) (rest := [.int (1 : Int32), .int ((60 : Int32) * o3)]) ⟨hx, hb, hml, hown, hts⟩ (c_X6_farOf l G k tL tM sK sV H.size v4 o5 o6 hv) (va_cwS 2 hts gX6_forceOn_X6_farOf rfl rfl rfl (by decide +kernel) ⟨Nat.le_of_ble_eq_true rfl, Nat.le_of_ble_eq_true rfl⟩) (z_preS (wc := []) [] hK hE hA hP hD hS (by decide) rfl) rfl rfl hl.1 rfl (lv_room (Nat.le_of_ble_eq_true rfl)) dX6_forceOn_59 ⟨Nat.le_refl _, Nat.le_refl _⟩) hA hP hD hS rfl rfl rfl rfl (fun H locs hP hD hS => ?_)
      refine lv_iadd hx hb dX6_forceOn_62 ?_
      obtain ⟨v7, hv, h⟩ := zb h
      obtain ⟨hne, hvv⟩ := z_divS hv
      refine lv_idiv hx hb dX6_forceOn_63 hne ?_
      rw [hvv]
      have hr := (zs h)
      subst hr
      exact hret H locs ls 64 hP hS dX6_forceOn_64
    · have h := zif c8 h
      refine lv_iconst (v := 0) hx hb dX6_forceOn_31 (by decide) ?_
      have hr := (zs h)
      subst hr
      exact hret H locs ls 32 hP hS dX6_forceOn_32
theorem iw_X6_backOn_X6 : ∀ w ∈ wsX60, w ∈ wsX6_backOn := fun _ h => List.mem_cons_of_mem _ (List.mem_append_right _ h)
set_option maxHeartbeats 4000000 in
set_option maxRecDepth 100000 in
theorem c_X6_backOn (l : Launch) (G : va_G) (k : Nat → ClassId) (tL tM : Nat) (sK sV : Nat → Nat) (a_m : Nat) (a_m_state : Nat) (a_m_readPage : Nat) (a_m_tape : Nat) (a_m_cuts : Nat) (a_m_letters : Nat) (a_m_seen : Nat) (a_m_pointBy : Nat) (a_m_isKept : Nat) (a_m_lanes : Nat) (a_m_lengths : Nat) (a_m_sheetCells : Nat) (sz : Nat) (m_toldOnce : Int32) (m_taped : Int32) (m_fault : Int32) (m_broken : Int32) (m_brokenAt : Int32) (m_spot : Int32) (m_here : Int32) (m_token : Int32) (m_value : Int32) (m_silent : Int32) (m_greatest : Int32) (m_moves : Int32) (m_holders : Int32) (m_seenMany : Int32) (m_torn : Int32) (m_state : Nat → Int32) (u1 : Int32) (out : Int32) (h : p_X6_backOn u1 m_state = some out) : zMi l yX6_backOn wsX6_backOn 3 63 G k tL tM sK sV [.ref a_m, .int u1] [(a_m, .inr (6, [.ref a_m_state, .ref a_m_readPage, .int m_toldOnce, .ref a_m_tape, .int m_taped, .int m_fault, .int m_broken, .int m_brokenAt, .int m_spot, .int m_here, .int m_token, .int m_value, .ref a_m_cuts, .ref a_m_letters, .int m_silent, .int m_greatest, .int m_moves, .int m_holders, .ref a_m_seen, .int m_seenMany, .ref a_m_pointBy, .ref a_m_isKept, .ref a_m_lanes, .ref a_m_lengths, .ref a_m_sheetCells, .int m_torn])), (a_m_state, .inl (k 0, 156, .inl m_state))] [(a_m, .inr (6, [.ref a_m_state, .ref a_m_readPage, .int m_toldOnce, .ref a_m_tape, .int m_taped, .int m_fault, .int m_broken, .int m_brokenAt, .int m_spot, .int m_here, .int m_token, .int m_value, .ref a_m_cuts, .ref a_m_letters, .int m_silent, .int m_greatest, .int m_moves, .int m_holders, .ref a_m_seen, .int m_seenMany, .ref a_m_pointBy, .ref a_m_isKept, .ref a_m_lanes, .ref a_m_lengths, .ref a_m_sheetCells, .int m_torn])), (a_m_state, .inl (k 0, 156, .inl m_state))] out sz := by
  refine z_meti (cc := cX6_backOn) (maxL := 2) (by decide) rfl (Nat.le_of_ble_eq_true rfl) ?_
  intro p e s m below meth c A Q H locs ls hx hb hml hts hown hA hK hE hret hP hD hS hl
  have hown : s.vm.findClass RX6 = some m.cls := hown
  have hl : lv_has ls 2 [(0, .ref a_m), (1, .int u1)] := hl
  unfold p_X6_backOn at h
  refine lv_aload_n hx hb dX6_backOn_0 rfl (lv_at hl 0 rfl) ?_
  refine va_get (D := G) (ci := 6) (v := .ref a_m_state) (C := RX6) (T := TX6) (N := 26) hx hb hts iw_X6_backOn_X6 hown hK hP 0 rfl rfl 0 (by decide) (hts (.fieldLink RX6 7 "SpireLeanModel" "state" "[I") (List.mem_of_getElem? (i := 1) rfl)) (fun _ h9 => h9) rfl dX6_backOn_1 ?_
  refine lv_iload_n hx hb dX6_backOn_4 rfl (lv_at hl 1 rfl) ?_
  refine lv_bipush (v := 23) hx hb dX6_backOn_5 (by decide) ?_
  refine lv_iadd hx hb dX6_backOn_7 ?_
  obtain ⟨v1, hv, h⟩ := zb h
  refine z_iald hx hb hK hP 1 0 rfl rfl hv dX6_backOn_8 ?_
  refine lv_iconst (v := 2) hx hb dX6_backOn_9 (by decide) ?_
  refine lv_iadd hx hb dX6_backOn_10 ?_
  refine lv_aload_n hx hb dX6_backOn_11 rfl (lv_at hl 0 rfl) ?_
  refine lv_iload_n hx hb dX6_backOn_12 rfl (lv_at hl 1 rfl) ?_
  obtain ⟨o2, hv, h⟩ := zb h
  refine z_goi (w2 := [(a_m, .inr (6, [.ref a_m_state, .ref a_m_readPage, .int m_toldOnce, .ref a_m_tape, .int m_taped, .int m_fault, .int m_broken, .int m_brokenAt, .int m_spot, .int m_here, .int m_token, .int m_value, .ref a_m_cuts, .ref a_m_letters, .int m_silent, .int m_greatest, .int m_moves, .int m_holders, .ref a_m_seen, .int m_seenMany, .ref a_m_pointBy, .ref a_m_isKept, .ref a_m_lanes, .ref a_m_lengths, .ref a_m_sheetCells, .int m_torn])), (a_m_state, .inl (k 0, 156, .inl m_state))]) [0, 1] (va_runV (As := [.int u1]) (rest := [.int (v1 + (2 : Int32))]) ⟨hx, hb, hml, hown, hts⟩ (c_X6_leanOn l G k tL tM sK sV a_m a_m_state a_m_readPage a_m_tape a_m_cuts a_m_letters a_m_seen a_m_pointBy a_m_isKept a_m_lanes a_m_lengths a_m_sheetCells H.size m_toldOnce m_taped m_fault m_broken m_brokenAt m_spot m_here m_token m_value m_silent m_greatest m_moves m_holders m_seenMany m_torn m_state u1 o2 hv) (cwV 1 hts gX6_backOn_X6_leanOn rfl rfl rfl (by decide +kernel) ⟨Nat.le_of_ble_eq_true rfl, Nat.le_of_ble_eq_true rfl⟩) (z_preV (wc := [(a_m, .inr (6, [.ref a_m_state, .ref a_m_readPage, .int m_toldOnce, .ref a_m_tape, .int m_taped, .int m_fault, .int m_broken, .int m_brokenAt, .int m_spot, .int m_here, .int m_token, .int m_value, .ref a_m_cuts, .ref a_m_letters, .int m_silent, .int m_greatest, .int m_moves, .int m_holders, .ref a_m_seen, .int m_seenMany, .ref a_m_pointBy, .ref a_m_isKept, .ref a_m_lanes, .ref a_m_lengths, .ref a_m_sheetCells, .int m_torn])), (a_m_state, .inl (k 0, 156, .inl m_state))]) [0, 1] 0 6 hK hE hA hP hD hS (by decide) rfl rfl rfl) rfl rfl hl.1 rfl (lv_room (Nat.le_of_ble_eq_true rfl)) dX6_backOn_13 ⟨Nat.le_refl _, Nat.le_refl _⟩) hA hP hD hS rfl rfl rfl rfl (fun H locs hP hD hS => ?_)
  refine lv_imul hx hb dX6_backOn_16 ?_
  have hr := (zs h)
  subst hr
  exact hret H locs ls 17 hP hS dX6_backOn_17
theorem iw_X6_holderOn_X6 : ∀ w ∈ wsX60, w ∈ wsX6_holderOn := fun _ h => List.mem_cons_of_mem _ (List.mem_append_right _ h)
set_option maxHeartbeats 4000000 in
set_option maxRecDepth 100000 in
theorem c_X6_holderOn (l : Launch) (G : va_G) (k : Nat → ClassId) (tL tM : Nat) (sK sV : Nat → Nat) (a_m : Nat) (a_m_state : Nat) (a_m_readPage : Nat) (a_m_tape : Nat) (a_m_cuts : Nat) (a_m_letters : Nat) (a_m_seen : Nat) (a_m_pointBy : Nat) (a_m_isKept : Nat) (a_m_lanes : Nat) (a_m_lengths : Nat) (a_m_sheetCells : Nat) (sz : Nat) (m_toldOnce : Int32) (m_taped : Int32) (m_fault : Int32) (m_broken : Int32) (m_brokenAt : Int32) (m_spot : Int32) (m_here : Int32) (m_token : Int32) (m_value : Int32) (m_silent : Int32) (m_greatest : Int32) (m_moves : Int32) (m_holders : Int32) (m_seenMany : Int32) (m_torn : Int32) (m_state : Nat → Int32) (u1 : Int32) (out : Int32) (h : p_X6_holderOn u1 m_silent m_state = some out) : zMi l yX6_holderOn wsX6_holderOn 4 84 G k tL tM sK sV [.ref a_m, .int u1] [(a_m, .inr (6, [.ref a_m_state, .ref a_m_readPage, .int m_toldOnce, .ref a_m_tape, .int m_taped, .int m_fault, .int m_broken, .int m_brokenAt, .int m_spot, .int m_here, .int m_token, .int m_value, .ref a_m_cuts, .ref a_m_letters, .int m_silent, .int m_greatest, .int m_moves, .int m_holders, .ref a_m_seen, .int m_seenMany, .ref a_m_pointBy, .ref a_m_isKept, .ref a_m_lanes, .ref a_m_lengths, .ref a_m_sheetCells, .int m_torn])), (a_m_state, .inl (k 0, 156, .inl m_state))] [(a_m, .inr (6, [.ref a_m_state, .ref a_m_readPage, .int m_toldOnce, .ref a_m_tape, .int m_taped, .int m_fault, .int m_broken, .int m_brokenAt, .int m_spot, .int m_here, .int m_token, .int m_value, .ref a_m_cuts, .ref a_m_letters, .int m_silent, .int m_greatest, .int m_moves, .int m_holders, .ref a_m_seen, .int m_seenMany, .ref a_m_pointBy, .ref a_m_isKept, .ref a_m_lanes, .ref a_m_lengths, .ref a_m_sheetCells, .int m_torn])), (a_m_state, .inl (k 0, 156, .inl m_state))] out sz := by
  refine z_meti (cc := cX6_holderOn) (maxL := 6) (by decide) rfl (Nat.le_of_ble_eq_true rfl) ?_
  intro p e s m below meth c A Q H locs ls hx hb hml hts hown hA hK hE hret hP hD hS hl
  have hown : s.vm.findClass RX6 = some m.cls := hown
  have hl : lv_has ls 6 [(0, .ref a_m), (1, .int u1)] := hl
  unfold p_X6_holderOn at h
  refine lv_bipush (v := (-4)) hx hb dX6_holderOn_0 (by decide) ?_
  refine lv_istore_n (lv' := [(2, .int (-4 : Int32)), (0, .ref a_m), (1, .int u1)]) hx hb dX6_holderOn_2 rfl hl (by decide) rfl (fun ls hl => ?_)
  refine lv_aload_n hx hb dX6_holderOn_3 rfl (lv_at hl 1 rfl) ?_
  refine lv_iload_n hx hb dX6_holderOn_4 rfl (lv_at hl 2 rfl) ?_
  obtain ⟨o1, hv, h⟩ := zb h
  refine z_goi (w2 := [(a_m, .inr (6, [.ref a_m_state, .ref a_m_readPage, .int m_toldOnce, .ref a_m_tape, .int m_taped, .int m_fault, .int m_broken, .int m_brokenAt, .int m_spot, .int m_here, .int m_token, .int m_value, .ref a_m_cuts, .ref a_m_letters, .int m_silent, .int m_greatest, .int m_moves, .int m_holders, .ref a_m_seen, .int m_seenMany, .ref a_m_pointBy, .ref a_m_isKept, .ref a_m_lanes, .ref a_m_lengths, .ref a_m_sheetCells, .int m_torn])), (a_m_state, .inl (k 0, 156, .inl m_state))]) [0, 1] (va_runV (As := [.int u1]) (rest := []) ⟨hx, hb, hml, hown, hts⟩ (c_X6_backOn l G k tL tM sK sV a_m a_m_state a_m_readPage a_m_tape a_m_cuts a_m_letters a_m_seen a_m_pointBy a_m_isKept a_m_lanes a_m_lengths a_m_sheetCells H.size m_toldOnce m_taped m_fault m_broken m_brokenAt m_spot m_here m_token m_value m_silent m_greatest m_moves m_holders m_seenMany m_torn m_state u1 o1 hv) (cwV 1 hts gX6_holderOn_X6_backOn rfl rfl rfl (by decide +kernel) ⟨Nat.le_of_ble_eq_true rfl, Nat.le_of_ble_eq_true rfl⟩) (z_preV (wc := [(a_m, .inr (6, [.ref a_m_state, .ref a_m_readPage, .int m_toldOnce, .ref a_m_tape, .int m_taped, .int m_fault, .int m_broken, .int m_brokenAt, .int m_spot, .int m_here, .int m_token, .int m_value, .ref a_m_cuts, .ref a_m_letters, .int m_silent, .int m_greatest, .int m_moves, .int m_holders, .ref a_m_seen, .int m_seenMany, .ref a_m_pointBy, .ref a_m_isKept, .ref a_m_lanes, .ref a_m_lengths, .ref a_m_sheetCells, .int m_torn])), (a_m_state, .inl (k 0, 156, .inl m_state))]) [0, 1] 0 6 hK hE hA hP hD hS (by decide) rfl rfl rfl) rfl rfl hl.1 rfl (lv_room (Nat.le_of_ble_eq_true rfl)) dX6_holderOn_5 ⟨Nat.le_refl _, Nat.le_refl _⟩) hA hP hD hS rfl rfl rfl rfl (fun H locs hP hD hS => ?_)
  refine lv_istore_n (lv' := [(3, .int o1), (2, .int (-4 : Int32)), (0, .ref a_m), (1, .int u1)]) hx hb dX6_holderOn_8 rfl hl (by decide) rfl (fun ls hl => ?_)
  refine lv_iconst (v := 0) hx hb dX6_holderOn_9 (by decide) ?_
  refine lv_istore (lv' := [(4, .int (0 : Int32)), (3, .int o1), (2, .int (-4 : Int32)), (0, .ref a_m), (1, .int u1)]) hx hb dX6_holderOn_10 hl (by decide) rfl (fun ls hl => ?_)
  obtain ⟨e6, hv, h⟩ := zb h
  have hJ5 : ∀ (e6_ : Int32), e6_ = e6 → zW p l e (zR 4 84) s m ([.ref a_m, .int u1] : List Value).toArray below meth c Q 6 A G [(a_m, .inr (6, [.ref a_m_state, .ref a_m_readPage, .int m_toldOnce, .ref a_m_tape, .int m_taped, .int m_fault, .int m_broken, .int m_brokenAt, .int m_spot, .int m_here, .int m_token, .int m_value, .ref a_m_cuts, .ref a_m_letters, .int m_silent, .int m_greatest, .int m_moves, .int m_holders, .ref a_m_seen, .int m_seenMany, .ref a_m_pointBy, .ref a_m_isKept, .ref a_m_lanes, .ref a_m_lengths, .ref a_m_sheetCells, .int m_torn])), (a_m_state, .inl (k 0, 156, .inl m_state))] [(2, .int e6_)] 75 [] := by
    intro e6_ hz
    subst hz
    intro H locs ls hP hD hS hl
    refine lv_iload_n hx hb dX6_holderOn_75 rfl (lv_at hl 0 rfl) ?_
    have hr := (zs h)
    subst hr
    exact hret H locs ls 76 hP hS dX6_holderOn_76
  refine z_lpW (Wh := fun (x2 : Int32 × Int32 × Int32) => zW p l e (zR 4 84) s m ([.ref a_m, .int u1] : List Value).toArray below meth c Q 6 A G [(a_m, .inr (6, [.ref a_m_state, .ref a_m_readPage, .int m_toldOnce, .ref a_m_tape, .int m_taped, .int m_fault, .int m_broken, .int m_brokenAt, .int m_spot, .int m_here, .int m_token, .int m_value, .ref a_m_cuts, .ref a_m_letters, .int m_silent, .int m_greatest, .int m_moves, .int m_holders, .ref a_m_seen, .int m_seenMany, .ref a_m_pointBy, .ref a_m_isKept, .ref a_m_lanes, .ref a_m_lengths, .ref a_m_sheetCells, .int m_torn])), (a_m_state, .inl (k 0, 156, .inl m_state))] [(0, .ref a_m), (1, .int u1), (2, .int x2.1), (3, .int x2.2.1), (4, .int x2.2.2)] 12 []) ?_ 1000 _ hv H locs ls hP hD hS (lv_sub hl [3, 4, 2, 1, 0] rfl)
  clear h
  intro x2 o h hC3 hX4 H locs ls hP hD hS hl
  unfold p_X6_holderOn_b12 at h
  refine lv_iload hx hb dX6_holderOn_12 (lv_at hl 4 rfl) ?_
  refine lv_aload_n hx hb dX6_holderOn_14 rfl (lv_at hl 0 rfl) ?_
  refine va_get (D := G) (ci := 6) (v := .ref a_m_state) (C := RX6) (T := TX6) (N := 26) hx hb hts iw_X6_holderOn_X6 hown hK hP 0 rfl rfl 0 (by decide) (hts (.fieldLink RX6 7 "SpireLeanModel" "state" "[I") (List.mem_of_getElem? (i := 1) rfl)) (fun _ h9 => h9) rfl dX6_holderOn_15 ?_
  refine lv_iload_n hx hb dX6_holderOn_18 rfl (lv_at hl 1 rfl) ?_
  refine lv_bipush (v := 20) hx hb dX6_holderOn_19 (by decide) ?_
  refine lv_iadd hx hb dX6_holderOn_21 ?_
  obtain ⟨v8, hv, h⟩ := zb h
  refine z_iald hx hb hK hP 1 0 rfl rfl hv dX6_holderOn_22 ?_
  refine lv_icmp_ge (tgt := 75) hx hb dX6_holderOn_23 (by decide) (fun c17 => ?_) (fun c17 => ?_)
  · have h := zit c17 h
    exact hJ5 _ (hX4 _ (zs h)) H locs ls hP hD hS (lv_sub hl [2] rfl)
  · have h := zif c17 h
    refine lv_aload_n hx hb dX6_holderOn_26 rfl (lv_at hl 0 rfl) ?_
    refine lv_iload_n hx hb dX6_holderOn_27 rfl (lv_at hl 1 rfl) ?_
    obtain ⟨o9, hv, h⟩ := zb h
    refine z_goi (w2 := [(a_m, .inr (6, [.ref a_m_state, .ref a_m_readPage, .int m_toldOnce, .ref a_m_tape, .int m_taped, .int m_fault, .int m_broken, .int m_brokenAt, .int m_spot, .int m_here, .int m_token, .int m_value, .ref a_m_cuts, .ref a_m_letters, .int m_silent, .int m_greatest, .int m_moves, .int m_holders, .ref a_m_seen, .int m_seenMany, .ref a_m_pointBy, .ref a_m_isKept, .ref a_m_lanes, .ref a_m_lengths, .ref a_m_sheetCells, .int m_torn])), (a_m_state, .inl (k 0, 156, .inl m_state))]) [0, 1] (va_runV (As := [.int u1]) (rest := []) ⟨hx, hb, hml, hown, hts⟩ (c_X6_isFallenOn l G k tL tM sK sV a_m a_m_state a_m_readPage a_m_tape a_m_cuts a_m_letters a_m_seen a_m_pointBy a_m_isKept a_m_lanes a_m_lengths a_m_sheetCells H.size m_toldOnce m_taped m_fault m_broken m_brokenAt m_spot m_here m_token m_value m_silent m_greatest m_moves m_holders m_seenMany m_torn m_state u1 o9 hv) (cwV 1 hts gX6_holderOn_X6_isFallenOn rfl rfl rfl (by decide +kernel) ⟨Nat.le_of_ble_eq_true rfl, Nat.le_of_ble_eq_true rfl⟩) (z_preV (wc := [(a_m, .inr (6, [.ref a_m_state, .ref a_m_readPage, .int m_toldOnce, .ref a_m_tape, .int m_taped, .int m_fault, .int m_broken, .int m_brokenAt, .int m_spot, .int m_here, .int m_token, .int m_value, .ref a_m_cuts, .ref a_m_letters, .int m_silent, .int m_greatest, .int m_moves, .int m_holders, .ref a_m_seen, .int m_seenMany, .ref a_m_pointBy, .ref a_m_isKept, .ref a_m_lanes, .ref a_m_lengths, .ref a_m_sheetCells, .int m_torn])), (a_m_state, .inl (k 0, 156, .inl m_state))]) [0, 1] 0 6 hK hE hA hP hD hS (by decide) rfl rfl rfl) rfl rfl hl.1 rfl (lv_room (Nat.le_of_ble_eq_true rfl)) dX6_holderOn_28 ⟨Nat.le_refl _, Nat.le_refl _⟩) hA hP hD hS rfl rfl rfl rfl (fun H locs hP hD hS => ?_)
    refine lv_if_ne (tgt := 75) hx hb dX6_holderOn_31 (by decide) (fun c16 => ?_) (fun c16 => ?_)
    · have h := zif c16 h
      exact hJ5 _ (hX4 _ (zs h)) H locs ls hP hD hS (lv_sub hl [2] rfl)
    · have h := zit c16 h
      refine lv_aload_n hx hb dX6_holderOn_34 rfl (lv_at hl 0 rfl) ?_
      refine lv_iload_n hx hb dX6_holderOn_35 rfl (lv_at hl 1 rfl) ?_
      refine lv_iload hx hb dX6_holderOn_36 (lv_at hl 4 rfl) ?_
      obtain ⟨o10, hv, h⟩ := zb h
      refine z_goi (w2 := [(a_m, .inr (6, [.ref a_m_state, .ref a_m_readPage, .int m_toldOnce, .ref a_m_tape, .int m_taped, .int m_fault, .int m_broken, .int m_brokenAt, .int m_spot, .int m_here, .int m_token, .int m_value, .ref a_m_cuts, .ref a_m_letters, .int m_silent, .int m_greatest, .int m_moves, .int m_holders, .ref a_m_seen, .int m_seenMany, .ref a_m_pointBy, .ref a_m_isKept, .ref a_m_lanes, .ref a_m_lengths, .ref a_m_sheetCells, .int m_torn])), (a_m_state, .inl (k 0, 156, .inl m_state))]) [0, 1] (va_runV (As := [.int u1, .int x2.2.2]) (rest := []) ⟨hx, hb, hml, hown, hts⟩ (c_X6_forceOn l G k tL tM sK sV a_m a_m_state a_m_readPage a_m_tape a_m_cuts a_m_letters a_m_seen a_m_pointBy a_m_isKept a_m_lanes a_m_lengths a_m_sheetCells H.size m_toldOnce m_taped m_fault m_broken m_brokenAt m_spot m_here m_token m_value m_silent m_greatest m_moves m_holders m_seenMany m_torn m_state u1 x2.2.2 o10 hv) (cwV 2 hts gX6_holderOn_X6_forceOn rfl rfl rfl (by decide +kernel) ⟨Nat.le_of_ble_eq_true rfl, Nat.le_of_ble_eq_true rfl⟩) (z_preV (wc := [(a_m, .inr (6, [.ref a_m_state, .ref a_m_readPage, .int m_toldOnce, .ref a_m_tape, .int m_taped, .int m_fault, .int m_broken, .int m_brokenAt, .int m_spot, .int m_here, .int m_token, .int m_value, .ref a_m_cuts, .ref a_m_letters, .int m_silent, .int m_greatest, .int m_moves, .int m_holders, .ref a_m_seen, .int m_seenMany, .ref a_m_pointBy, .ref a_m_isKept, .ref a_m_lanes, .ref a_m_lengths, .ref a_m_sheetCells, .int m_torn])), (a_m_state, .inl (k 0, 156, .inl m_state))]) [0, 1] 0 6 hK hE hA hP hD hS (by decide) rfl rfl rfl) rfl rfl hl.1 rfl (lv_room (Nat.le_of_ble_eq_true rfl)) dX6_holderOn_38 ⟨Nat.le_refl _, Nat.le_refl _⟩) hA hP hD hS rfl rfl rfl rfl (fun H locs hP hD hS => ?_)
      refine lv_istore (lv' := [(5, .int o10), (0, .ref a_m), (1, .int u1), (2, .int x2.1), (3, .int x2.2.1), (4, .int x2.2.2)]) hx hb dX6_holderOn_41 hl (by decide) rfl (fun ls hl => ?_)
      refine lv_iload hx hb dX6_holderOn_43 (lv_at hl 0 rfl) ?_
      refine lv_iload_n hx hb dX6_holderOn_45 rfl (lv_at hl 4 rfl) ?_
      have hJ11 : ∀ (y12 : Int32), y12 = (if o10 ≤ x2.2.1 then x2.1 else x2.2.2) → zW p l e (zR 4 84) s m ([.ref a_m, .int u1] : List Value).toArray below meth c Q 6 A G [(a_m, .inr (6, [.ref a_m_state, .ref a_m_readPage, .int m_toldOnce, .ref a_m_tape, .int m_taped, .int m_fault, .int m_broken, .int m_brokenAt, .int m_spot, .int m_here, .int m_token, .int m_value, .ref a_m_cuts, .ref a_m_letters, .int m_silent, .int m_greatest, .int m_moves, .int m_holders, .ref a_m_seen, .int m_seenMany, .ref a_m_pointBy, .ref a_m_isKept, .ref a_m_lanes, .ref a_m_lengths, .ref a_m_sheetCells, .int m_torn])), (a_m_state, .inl (k 0, 156, .inl m_state))] [(0, .ref a_m), (1, .int u1), (3, .int x2.2.1), (4, .int x2.2.2), (5, .int o10)] 55 [.int y12] := by
        intro y12 q13
        subst q13
        intro H locs ls hP hD hS hl
        refine lv_istore_n (lv' := [(2, .int (if o10 ≤ x2.2.1 then x2.1 else x2.2.2)), (0, .ref a_m), (1, .int u1), (3, .int x2.2.1), (4, .int x2.2.2), (5, .int o10)]) hx hb dX6_holderOn_55 rfl hl (by decide) rfl (fun ls hl => ?_)
        refine lv_iload hx hb dX6_holderOn_56 (lv_at hl 5 rfl) ?_
        refine lv_iload_n hx hb dX6_holderOn_58 rfl (lv_at hl 3 rfl) ?_
        refine lv_icmp_le (tgt := 67) hx hb dX6_holderOn_59 (by decide) (fun c15 => ?_) (fun c15 => ?_)
        · have h := zit c15 h
          refine lv_iload_n hx hb dX6_holderOn_67 rfl (lv_at hl 3 rfl) ?_
          refine lv_istore_n (lv' := [(3, .int x2.2.1), (2, .int (if o10 ≤ x2.2.1 then x2.1 else x2.2.2)), (0, .ref a_m), (1, .int u1), (4, .int x2.2.2), (5, .int o10)]) hx hb dX6_holderOn_68 rfl hl (by decide) rfl (fun ls hl => ?_)
          refine lv_iinc (v := x2.2.2 + (1 : Int32)) (lv' := [(4, .int (x2.2.2 + (1 : Int32))), (3, .int x2.2.1), (2, .int (if o10 ≤ x2.2.1 then x2.1 else x2.2.2)), (0, .ref a_m), (1, .int u1), (5, .int o10)]) hx hb dX6_holderOn_69 hl (k := 4) rfl rfl (by decide) rfl (fun ls hl => ?_)
          refine lv_goto (tgt := 12) hx hb dX6_holderOn_72 (by decide) ?_
          exact hC3 _ (zs h) H locs ls hP hD hS (lv_sub hl [3, 4, 2, 1, 0] rfl)
        · have h := zif c15 h
          refine lv_iload hx hb dX6_holderOn_62 (lv_at hl 5 rfl) ?_
          refine lv_goto (tgt := 68) hx hb dX6_holderOn_64 (by decide) ?_
          refine lv_istore_n (lv' := [(3, .int o10), (2, .int (if o10 ≤ x2.2.1 then x2.1 else x2.2.2)), (0, .ref a_m), (1, .int u1), (4, .int x2.2.2), (5, .int o10)]) hx hb dX6_holderOn_68 rfl hl (by decide) rfl (fun ls hl => ?_)
          refine lv_iinc (v := x2.2.2 + (1 : Int32)) (lv' := [(4, .int (x2.2.2 + (1 : Int32))), (3, .int o10), (2, .int (if o10 ≤ x2.2.1 then x2.1 else x2.2.2)), (0, .ref a_m), (1, .int u1), (5, .int o10)]) hx hb dX6_holderOn_69 hl (k := 4) rfl rfl (by decide) rfl (fun ls hl => ?_)
          refine lv_goto (tgt := 12) hx hb dX6_holderOn_72 (by decide) ?_
          exact hC3 _ (zs h) H locs ls hP hD hS (lv_sub hl [3, 4, 2, 1, 0] rfl)
      refine lv_icmp_le (tgt := 54) hx hb dX6_holderOn_46 (by decide) (fun c14 => ?_) (fun c14 => ?_)
      · refine lv_iload_n hx hb dX6_holderOn_54 rfl (lv_at hl 3 rfl) ?_
        exact hJ11 _ (if_pos c14).symm H locs ls hP hD hS (lv_sub hl [1, 2, 4, 5, 0] rfl)
      · refine lv_iload hx hb dX6_holderOn_49 (lv_at hl 5 rfl) ?_
        refine lv_goto (tgt := 55) hx hb dX6_holderOn_51 (by decide) ?_
        exact hJ11 _ (if_neg c14).symm H locs ls hP hD hS (lv_sub hl [1, 2, 4, 5, 0] rfl)
theorem iw_X6_goesOn_X6 : ∀ w ∈ wsX60, w ∈ wsX6_goesOn := fun _ h => List.mem_cons_of_mem _ (List.mem_append_right _ h)
set_option maxHeartbeats 4000000 in
set_option maxRecDepth 100000 in
theorem c_X6_goesOn (l : Launch) (G : va_G) (k : Nat → ClassId) (tL tM : Nat) (sK sV : Nat → Nat) (a_m : Nat) (a_m_state : Nat) (a_m_readPage : Nat) (a_m_tape : Nat) (a_m_cuts : Nat) (a_m_letters : Nat) (a_m_seen : Nat) (a_m_pointBy : Nat) (a_m_isKept : Nat) (a_m_lanes : Nat) (a_m_lengths : Nat) (a_m_sheetCells : Nat) (sz : Nat) (m_toldOnce : Int32) (m_taped : Int32) (m_fault : Int32) (m_broken : Int32) (m_brokenAt : Int32) (m_spot : Int32) (m_here : Int32) (m_token : Int32) (m_value : Int32) (m_silent : Int32) (m_greatest : Int32) (m_moves : Int32) (m_holders : Int32) (m_seenMany : Int32) (m_torn : Int32) (m_state : Nat → Int32) (u1 : Int32) (u2 : Int32) (out : (Nat → Int32)) (h : p_X6_goesOn u1 u2 m_state = some out) : zMv l yX6_goesOn wsX6_goesOn 1 21 G k tL tM sK sV [.ref a_m, .int u1, .int u2] [(a_m, .inr (6, [.ref a_m_state, .ref a_m_readPage, .int m_toldOnce, .ref a_m_tape, .int m_taped, .int m_fault, .int m_broken, .int m_brokenAt, .int m_spot, .int m_here, .int m_token, .int m_value, .ref a_m_cuts, .ref a_m_letters, .int m_silent, .int m_greatest, .int m_moves, .int m_holders, .ref a_m_seen, .int m_seenMany, .ref a_m_pointBy, .ref a_m_isKept, .ref a_m_lanes, .ref a_m_lengths, .ref a_m_sheetCells, .int m_torn])), (a_m_state, .inl (k 0, 156, .inl m_state))] [(a_m, .inr (6, [.ref a_m_state, .ref a_m_readPage, .int m_toldOnce, .ref a_m_tape, .int m_taped, .int m_fault, .int m_broken, .int m_brokenAt, .int m_spot, .int m_here, .int m_token, .int m_value, .ref a_m_cuts, .ref a_m_letters, .int m_silent, .int m_greatest, .int m_moves, .int m_holders, .ref a_m_seen, .int m_seenMany, .ref a_m_pointBy, .ref a_m_isKept, .ref a_m_lanes, .ref a_m_lengths, .ref a_m_sheetCells, .int m_torn])), (a_m_state, .inl (k 0, 156, .inl out))] sz := by
  refine z_metv (cc := cX6_goesOn) (maxL := 7) (by decide) rfl (Nat.le_of_ble_eq_true rfl) ?_
  intro p e s m below meth c A Q H locs ls hx hb hml hts hown hA hK hE hret hP hD hS hl
  have hown : s.vm.findClass RX6 = some m.cls := hown
  have hl : lv_has ls 7 [(0, .ref a_m), (1, .int u1), (2, .int u2)] := hl
  unfold p_X6_goesOn at h
  refine lv_aload_n hx hb dX6_goesOn_0 rfl (lv_at hl 0 rfl) ?_
  refine lv_iload_n hx hb dX6_goesOn_1 rfl (lv_at hl 1 rfl) ?_
  obtain ⟨o1, hv, h⟩ := zb h
  refine z_goi (w2 := [(a_m, .inr (6, [.ref a_m_state, .ref a_m_readPage, .int m_toldOnce, .ref a_m_tape, .int m_taped, .int m_fault, .int m_broken, .int m_brokenAt, .int m_spot, .int m_here, .int m_token, .int m_value, .ref a_m_cuts, .ref a_m_letters, .int m_silent, .int m_greatest, .int m_moves, .int m_holders, .ref a_m_seen, .int m_seenMany, .ref a_m_pointBy, .ref a_m_isKept, .ref a_m_lanes, .ref a_m_lengths, .ref a_m_sheetCells, .int m_torn])), (a_m_state, .inl (k 0, 156, .inl m_state))]) [0, 1] (va_runV (As := [.int u1]) (rest := []) ⟨hx, hb, hml, hown, hts⟩ (c_X6_pointOn l G k tL tM sK sV a_m a_m_state a_m_readPage a_m_tape a_m_cuts a_m_letters a_m_seen a_m_pointBy a_m_isKept a_m_lanes a_m_lengths a_m_sheetCells H.size m_toldOnce m_taped m_fault m_broken m_brokenAt m_spot m_here m_token m_value m_silent m_greatest m_moves m_holders m_seenMany m_torn m_state u1 o1 hv) (cwV 1 hts gX6_goesOn_X6_pointOn rfl rfl rfl (by decide +kernel) ⟨Nat.le_of_ble_eq_true rfl, Nat.le_of_ble_eq_true rfl⟩) (z_preV (wc := [(a_m, .inr (6, [.ref a_m_state, .ref a_m_readPage, .int m_toldOnce, .ref a_m_tape, .int m_taped, .int m_fault, .int m_broken, .int m_brokenAt, .int m_spot, .int m_here, .int m_token, .int m_value, .ref a_m_cuts, .ref a_m_letters, .int m_silent, .int m_greatest, .int m_moves, .int m_holders, .ref a_m_seen, .int m_seenMany, .ref a_m_pointBy, .ref a_m_isKept, .ref a_m_lanes, .ref a_m_lengths, .ref a_m_sheetCells, .int m_torn])), (a_m_state, .inl (k 0, 156, .inl m_state))]) [0, 1] 0 6 hK hE hA hP hD hS (by decide) rfl rfl rfl) rfl rfl hl.1 rfl (lv_room (Nat.le_of_ble_eq_true rfl)) dX6_goesOn_2 ⟨Nat.le_refl _, Nat.le_refl _⟩) hA hP hD hS rfl rfl rfl rfl (fun H locs hP hD hS => ?_)
  refine lv_bipush (v := 10) hx hb dX6_goesOn_5 (by decide) ?_
  refine lv_idiv hx hb dX6_goesOn_7 (by decide) ?_
  refine lv_istore_n (lv' := [(3, .int (o1 / (10 : Int32))), (0, .ref a_m), (1, .int u1), (2, .int u2)]) hx hb dX6_goesOn_8 rfl hl (by decide) rfl (fun ls hl => ?_)
  refine lv_aload_n hx hb dX6_goesOn_9 rfl (lv_at hl 1 rfl) ?_
  refine lv_iload_n hx hb dX6_goesOn_10 rfl (lv_at hl 2 rfl) ?_
  obtain ⟨o2, hv, h⟩ := zb h
  refine z_goi (w2 := [(a_m, .inr (6, [.ref a_m_state, .ref a_m_readPage, .int m_toldOnce, .ref a_m_tape, .int m_taped, .int m_fault, .int m_broken, .int m_brokenAt, .int m_spot, .int m_here, .int m_token, .int m_value, .ref a_m_cuts, .ref a_m_letters, .int m_silent, .int m_greatest, .int m_moves, .int m_holders, .ref a_m_seen, .int m_seenMany, .ref a_m_pointBy, .ref a_m_isKept, .ref a_m_lanes, .ref a_m_lengths, .ref a_m_sheetCells, .int m_torn])), (a_m_state, .inl (k 0, 156, .inl m_state))]) [0, 1] (va_runV (As := [.int u1]) (rest := []) ⟨hx, hb, hml, hown, hts⟩ (c_X6_pointOn l G k tL tM sK sV a_m a_m_state a_m_readPage a_m_tape a_m_cuts a_m_letters a_m_seen a_m_pointBy a_m_isKept a_m_lanes a_m_lengths a_m_sheetCells H.size m_toldOnce m_taped m_fault m_broken m_brokenAt m_spot m_here m_token m_value m_silent m_greatest m_moves m_holders m_seenMany m_torn m_state u1 o2 hv) (cwV 1 hts gX6_goesOn_X6_pointOn rfl rfl rfl (by decide +kernel) ⟨Nat.le_of_ble_eq_true rfl, Nat.le_of_ble_eq_true rfl⟩) (z_preV (wc := [(a_m, .inr (6, [.ref a_m_state, .ref a_m_readPage, .int m_toldOnce, .ref a_m_tape, .int m_taped, .int m_fault, .int m_broken, .int m_brokenAt, .int m_spot, .int m_here, .int m_token, .int m_value, .ref a_m_cuts, .ref a_m_letters, .int m_silent, .int m_greatest, .int m_moves, .int m_holders, .ref a_m_seen, .int m_seenMany, .ref a_m_pointBy, .ref a_m_isKept, .ref a_m_lanes, .ref a_m_lengths, .ref a_m_sheetCells, .int m_torn])), (a_m_state, .inl (k 0, 156, .inl m_state))]) [0, 1] 0 6 hK hE hA hP hD hS (by decide) rfl rfl rfl) rfl rfl hl.1 rfl (lv_room (Nat.le_of_ble_eq_true rfl)) dX6_goesOn_11 ⟨Nat.le_refl _, Nat.le_refl _⟩) hA hP hD hS rfl rfl rfl rfl (fun H locs hP hD hS => ?_)
  refine lv_bipush (v := 10) hx hb dX6_goesOn_14 (by decide) ?_
  refine lv_irem hx hb dX6_goesOn_16 (by decide) ?_
  refine lv_istore (lv' := [(4, .int (o2 - o2 / (10 : Int32) * (10 : Int32))), (3, .int (o1 / (10 : Int32))), (0, .ref a_m), (1, .int u1), (2, .int u2)]) hx hb dX6_goesOn_17 hl (by decide) rfl (fun ls hl => ?_)
  refine lv_iload_n hx hb dX6_goesOn_19 rfl (lv_at hl 4 rfl) ?_
  refine lv_bipush (v := 10) hx hb dX6_goesOn_20 (by decide) ?_
  refine lv_idiv hx hb dX6_goesOn_22 (by decide) ?_
  refine lv_istore (lv' := [(5, .int (u2 / (10 : Int32))), (4, .int (o2 - o2 / (10 : Int32) * (10 : Int32))), (3, .int (o1 / (10 : Int32))), (0, .ref a_m), (1, .int u1), (2, .int u2)]) hx hb dX6_goesOn_23 hl (by decide) rfl (fun ls hl => ?_)
  refine lv_iload_n hx hb dX6_goesOn_25 rfl (lv_at hl 5 rfl) ?_
  refine lv_bipush (v := 10) hx hb dX6_goesOn_26 (by decide) ?_
  refine lv_irem hx hb dX6_goesOn_28 (by decide) ?_
  refine lv_istore (lv' := [(6, .int (u2 - u2 / (10 : Int32) * (10 : Int32))), (5, .int (u2 / (10 : Int32))), (4, .int (o2 - o2 / (10 : Int32) * (10 : Int32))), (3, .int (o1 / (10 : Int32))), (0, .ref a_m), (1, .int u1), (2, .int u2)]) hx hb dX6_goesOn_29 hl (by decide) rfl (fun ls hl => ?_)
  refine lv_iload_n hx hb dX6_goesOn_31 rfl (lv_at hl 3 rfl) ?_
  refine lv_iload hx hb dX6_goesOn_32 (lv_at hl 1 rfl) ?_
  obtain ⟨o3, hv, h⟩ := zb h
  refine z_goi (w2 := [(a_m, .inr (6, [.ref a_m_state, .ref a_m_readPage, .int m_toldOnce, .ref a_m_tape, .int m_taped, .int m_fault, .int m_broken, .int m_brokenAt, .int m_spot, .int m_here, .int m_token, .int m_value, .ref a_m_cuts, .ref a_m_letters, .int m_silent, .int m_greatest, .int m_moves, .int m_holders, .ref a_m_seen, .int m_seenMany, .ref a_m_pointBy, .ref a_m_isKept, .ref a_m_lanes, .ref a_m_lengths, .ref a_m_sheetCells, .int m_torn])), (a_m_state, .inl (k 0, 156, .inl m_state))]) [] (va_runS (As := [.int (o1 / (10 : Int32)), .int (u2 / (10 : Int32))]) (rest := []) ⟨hx, hb, hml, hown, hts⟩ (c_X6_apart l G k tL tM sK sV H.size (o1 / (10 : Int32)) (u2 / (10 : Int32)) o3 hv) (va_cwS 2 hts gX6_goesOn_X6_apart rfl rfl rfl (by decide +kernel) ⟨Nat.le_of_ble_eq_true rfl, Nat.le_of_ble_eq_true rfl⟩) (z_preS (wc := []) [] hK hE hA hP hD hS (by decide) rfl) rfl rfl hl.1 rfl (lv_room (Nat.le_of_ble_eq_true rfl)) dX6_goesOn_34 ⟨Nat.le_refl _, Nat.le_refl _⟩) hA hP hD hS rfl rfl rfl rfl (fun H locs hP hD hS => ?_)
  refine lv_iload hx hb dX6_goesOn_37 (lv_at hl 2 rfl) ?_
  refine lv_iload hx hb dX6_goesOn_39 (lv_at hl 0 rfl) ?_
  obtain ⟨o4, hv, h⟩ := zb h
  refine z_goi (w2 := [(a_m, .inr (6, [.ref a_m_state, .ref a_m_readPage, .int m_toldOnce, .ref a_m_tape, .int m_taped, .int m_fault, .int m_broken, .int m_brokenAt, .int m_spot, .int m_here, .int m_token, .int m_value, .ref a_m_cuts, .ref a_m_letters, .int m_silent, .int m_greatest, .int m_moves, .int m_holders, .ref a_m_seen, .int m_seenMany, .ref a_m_pointBy, .ref a_m_isKept, .ref a_m_lanes, .ref a_m_lengths, .ref a_m_sheetCells, .int m_torn])), (a_m_state, .inl (k 0, 156, .inl m_state))]) [] (va_runS (As := [.int (o2 - o2 / (10 : Int32) * (10 : Int32)), .int (u2 - u2 / (10 : Int32) * (10 : Int32))]) (rest := [.int o3]) ⟨hx, hb, hml, hown, hts⟩ (c_X6_apart l G k tL tM sK sV H.size (o2 - o2 / (10 : Int32) * (10 : Int32)) (u2 - u2 / (10 : Int32) * (10 : Int32)) o4 hv) (va_cwS 2 hts gX6_goesOn_X6_apart rfl rfl rfl (by decide +kernel) ⟨Nat.le_of_ble_eq_true rfl, Nat.le_of_ble_eq_true rfl⟩) (z_preS (wc := []) [] hK hE hA hP hD hS (by decide) rfl) rfl rfl hl.1 rfl (lv_room (Nat.le_of_ble_eq_true rfl)) dX6_goesOn_41 ⟨Nat.le_refl _, Nat.le_refl _⟩) hA hP hD hS rfl rfl rfl rfl (fun H locs hP hD hS => ?_)
  have hJ5 : ∀ (y6 : Int32) (y7 : Int32), y6 = (if o3 < o4 then if (u2 - u2 / (10 : Int32) * (10 : Int32)) ≤ (o2 - o2 / (10 : Int32) * (10 : Int32)) then o1 / (10 : Int32) else o1 / (10 : Int32) else if (u2 / (10 : Int32)) ≤ (o1 / (10 : Int32)) then if (o1 / (10 : Int32)) ≤ (u2 / (10 : Int32)) then (o1 / (10 : Int32)) + (0 : Int32) else (o1 / (10 : Int32)) + (-1 : Int32) else (o1 / (10 : Int32)) + (1 : Int32)) → y7 = (if o3 < o4 then if (u2 - u2 / (10 : Int32) * (10 : Int32)) ≤ (o2 - o2 / (10 : Int32) * (10 : Int32)) then (o2 - o2 / (10 : Int32) * (10 : Int32)) + (-1 : Int32) else (o2 - o2 / (10 : Int32) * (10 : Int32)) + (1 : Int32) else if (u2 / (10 : Int32)) ≤ (o1 / (10 : Int32)) then if (o1 / (10 : Int32)) ≤ (u2 / (10 : Int32)) then o2 - o2 / (10 : Int32) * (10 : Int32) else o2 - o2 / (10 : Int32) * (10 : Int32) else o2 - o2 / (10 : Int32) * (10 : Int32)) → zW p l e (zR 1 21) s m ([.ref a_m, .int u1, .int u2] : List Value).toArray below meth c Q 7 A G [(a_m, .inr (6, [.ref a_m_state, .ref a_m_readPage, .int m_toldOnce, .ref a_m_tape, .int m_taped, .int m_fault, .int m_broken, .int m_brokenAt, .int m_spot, .int m_here, .int m_token, .int m_value, .ref a_m_cuts, .ref a_m_letters, .int m_silent, .int m_greatest, .int m_moves, .int m_holders, .ref a_m_seen, .int m_seenMany, .ref a_m_pointBy, .ref a_m_isKept, .ref a_m_lanes, .ref a_m_lengths, .ref a_m_sheetCells, .int m_torn])), (a_m_state, .inl (k 0, 156, .inl m_state))] [(0, .ref a_m), (1, .int u1), (3, .int y6), (4, .int y7)] 91 [] := by
    intro y6 y7 q8 q9
    subst q8
    subst q9
    intro H locs ls hP hD hS hl
    refine lv_aload_n hx hb dX6_goesOn_91 rfl (lv_at hl 0 rfl) ?_
    refine va_get (D := G) (ci := 6) (v := .ref a_m_state) (C := RX6) (T := TX6) (N := 26) hx hb hts iw_X6_goesOn_X6 hown hK hP 0 rfl rfl 0 (by decide) (hts (.fieldLink RX6 7 "SpireLeanModel" "state" "[I") (List.mem_of_getElem? (i := 1) rfl)) (fun _ h9 => h9) rfl dX6_goesOn_92 ?_
    refine lv_iload_n hx hb dX6_goesOn_95 rfl (lv_at hl 1 rfl) ?_
    refine lv_bipush (v := 22) hx hb dX6_goesOn_96 (by decide) ?_
    refine lv_iadd hx hb dX6_goesOn_98 ?_
    refine lv_bipush (v := 10) hx hb dX6_goesOn_99 (by decide) ?_
    refine lv_iload_n hx hb dX6_goesOn_101 rfl (lv_at hl 2 rfl) ?_
    refine lv_imul hx hb dX6_goesOn_102 ?_
    refine lv_iload hx hb dX6_goesOn_103 (lv_at hl 3 rfl) ?_
    refine lv_iadd hx hb dX6_goesOn_105 ?_
    refine lv_bipush (v := 44) hx hb dX6_goesOn_106 (by decide) ?_
    refine lv_isub hx hb dX6_goesOn_108 ?_
    obtain ⟨v14, hv, h⟩ := zb h
    refine z_iast hx hb hK hP hD hS 1 0 rfl rfl hv dX6_goesOn_109 (fun H locs hP hD hS => ?_)
    have hP : va_P G vwCl [(a_m, .inr (6, [.ref a_m_state, .ref a_m_readPage, .int m_toldOnce, .ref a_m_tape, .int m_taped, .int m_fault, .int m_broken, .int m_brokenAt, .int m_spot, .int m_here, .int m_token, .int m_value, .ref a_m_cuts, .ref a_m_letters, .int m_silent, .int m_greatest, .int m_moves, .int m_holders, .ref a_m_seen, .int m_seenMany, .ref a_m_pointBy, .ref a_m_isKept, .ref a_m_lanes, .ref a_m_lengths, .ref a_m_sheetCells, .int m_torn])), (a_m_state, .inl (k 0, 156, .inl v14))] H := hP
    have hD : va_D A [(a_m, .inr (6, [.ref a_m_state, .ref a_m_readPage, .int m_toldOnce, .ref a_m_tape, .int m_taped, .int m_fault, .int m_broken, .int m_brokenAt, .int m_spot, .int m_here, .int m_token, .int m_value, .ref a_m_cuts, .ref a_m_letters, .int m_silent, .int m_greatest, .int m_moves, .int m_holders, .ref a_m_seen, .int m_seenMany, .ref a_m_pointBy, .ref a_m_isKept, .ref a_m_lanes, .ref a_m_lengths, .ref a_m_sheetCells, .int m_torn])), (a_m_state, .inl (k 0, 156, .inl v14))] := hD
    have hr := (zs h)
    subst hr
    exact hret H locs ls 110 hP hS dX6_goesOn_110
  refine lv_icmp_lt (tgt := 74) hx hb dX6_goesOn_44 (by decide) (fun c13 => ?_) (fun c13 => ?_)
  · refine lv_iload hx hb dX6_goesOn_74 (lv_at hl 2 rfl) ?_
    refine lv_iload hx hb dX6_goesOn_76 (lv_at hl 0 rfl) ?_
    refine lv_iload hx hb dX6_goesOn_78 (lv_at hl 2 rfl) ?_
    refine lv_icmp_le (tgt := 87) hx hb dX6_goesOn_80 (by decide) (fun c10 => ?_) (fun c10 => ?_)
    · refine lv_iconst (v := (-1)) hx hb dX6_goesOn_87 (by decide) ?_
      refine lv_iadd hx hb dX6_goesOn_88 ?_
      refine lv_istore (lv' := [(4, .int ((o2 - o2 / (10 : Int32) * (10 : Int32)) + (-1 : Int32))), (6, .int (u2 - u2 / (10 : Int32) * (10 : Int32))), (5, .int (u2 / (10 : Int32))), (3, .int (o1 / (10 : Int32))), (0, .ref a_m), (1, .int u1), (2, .int u2)]) hx hb dX6_goesOn_89 hl (by decide) rfl (fun ls hl => ?_)
      exact hJ5 _ _ ((if_pos c13).trans (if_pos c10)).symm ((if_pos c13).trans (if_pos c10)).symm H locs ls hP hD hS (lv_sub hl [4, 5, 3, 0] rfl)
    · refine lv_iconst (v := 1) hx hb dX6_goesOn_83 (by decide) ?_
      refine lv_goto (tgt := 88) hx hb dX6_goesOn_84 (by decide) ?_
      refine lv_iadd hx hb dX6_goesOn_88 ?_
      refine lv_istore (lv' := [(4, .int ((o2 - o2 / (10 : Int32) * (10 : Int32)) + (1 : Int32))), (6, .int (u2 - u2 / (10 : Int32) * (10 : Int32))), (5, .int (u2 / (10 : Int32))), (3, .int (o1 / (10 : Int32))), (0, .ref a_m), (1, .int u1), (2, .int u2)]) hx hb dX6_goesOn_89 hl (by decide) rfl (fun ls hl => ?_)
      exact hJ5 _ _ ((if_pos c13).trans (if_neg c10)).symm ((if_pos c13).trans (if_neg c10)).symm H locs ls hP hD hS (lv_sub hl [4, 5, 3, 0] rfl)
  · refine lv_iload_n hx hb dX6_goesOn_47 rfl (lv_at hl 3 rfl) ?_
    refine lv_iload hx hb dX6_goesOn_48 (lv_at hl 1 rfl) ?_
    refine lv_iload_n hx hb dX6_goesOn_50 rfl (lv_at hl 3 rfl) ?_
    refine lv_icmp_le (tgt := 58) hx hb dX6_goesOn_51 (by decide) (fun c12 => ?_) (fun c12 => ?_)
    · refine lv_iload hx hb dX6_goesOn_58 (lv_at hl 1 rfl) ?_
      refine lv_iload_n hx hb dX6_goesOn_60 rfl (lv_at hl 3 rfl) ?_
      refine lv_icmp_ge (tgt := 68) hx hb dX6_goesOn_61 (by decide) (fun c11 => ?_) (fun c11 => ?_)
      · refine lv_iconst (v := 0) hx hb dX6_goesOn_68 (by decide) ?_
        refine lv_iadd hx hb dX6_goesOn_69 ?_
        refine lv_istore_n (lv' := [(3, .int ((o1 / (10 : Int32)) + (0 : Int32))), (6, .int (u2 - u2 / (10 : Int32) * (10 : Int32))), (5, .int (u2 / (10 : Int32))), (4, .int (o2 - o2 / (10 : Int32) * (10 : Int32))), (0, .ref a_m), (1, .int u1), (2, .int u2)]) hx hb dX6_goesOn_70 rfl hl (by decide) rfl (fun ls hl => ?_)
        refine lv_goto (tgt := 91) hx hb dX6_goesOn_71 (by decide) ?_
        exact hJ5 _ _ (((if_neg c13).trans (if_pos c12)).trans (if_pos c11)).symm (((if_neg c13).trans (if_pos c12)).trans (if_pos c11)).symm H locs ls hP hD hS (lv_sub hl [4, 5, 0, 3] rfl)
      · refine lv_iconst (v := (-1)) hx hb dX6_goesOn_64 (by decide) ?_
        refine lv_goto (tgt := 69) hx hb dX6_goesOn_65 (by decide) ?_
        refine lv_iadd hx hb dX6_goesOn_69 ?_
        refine lv_istore_n (lv' := [(3, .int ((o1 / (10 : Int32)) + (-1 : Int32))), (6, .int (u2 - u2 / (10 : Int32) * (10 : Int32))), (5, .int (u2 / (10 : Int32))), (4, .int (o2 - o2 / (10 : Int32) * (10 : Int32))), (0, .ref a_m), (1, .int u1), (2, .int u2)]) hx hb dX6_goesOn_70 rfl hl (by decide) rfl (fun ls hl => ?_)
        refine lv_goto (tgt := 91) hx hb dX6_goesOn_71 (by decide) ?_
        exact hJ5 _ _ (((if_neg c13).trans (if_pos c12)).trans (if_neg c11)).symm (((if_neg c13).trans (if_pos c12)).trans (if_neg c11)).symm H locs ls hP hD hS (lv_sub hl [4, 5, 0, 3] rfl)
    · refine lv_iconst (v := 1) hx hb dX6_goesOn_54 (by decide) ?_
      refine lv_goto (tgt := 69) hx hb dX6_goesOn_55 (by decide) ?_
      refine lv_iadd hx hb dX6_goesOn_69 ?_
      refine lv_istore_n (lv' := [(3, .int ((o1 / (10 : Int32)) + (1 : Int32))), (6, .int (u2 - u2 / (10 : Int32) * (10 : Int32))), (5, .int (u2 / (10 : Int32))), (4, .int (o2 - o2 / (10 : Int32) * (10 : Int32))), (0, .ref a_m), (1, .int u1), (2, .int u2)]) hx hb dX6_goesOn_70 rfl hl (by decide) rfl (fun ls hl => ?_)
      refine lv_goto (tgt := 91) hx hb dX6_goesOn_71 (by decide) ?_
      exact hJ5 _ _ ((if_neg c13).trans (if_neg c12)).symm ((if_neg c13).trans (if_neg c12)).symm H locs ls hP hD hS (lv_sub hl [4, 5, 0, 3] rfl)
theorem iw_X6_yearOn_X6 : ∀ w ∈ wsX60, w ∈ wsX6_yearOn := fun _ h => List.mem_cons_of_mem _ (List.mem_append_right _ h)
set_option maxHeartbeats 4000000 in
set_option maxRecDepth 100000 in
theorem c_X6_yearOn (l : Launch) (G : va_G) (k : Nat → ClassId) (tL tM : Nat) (sK sV : Nat → Nat) (a_m : Nat) (a_m_state : Nat) (a_m_readPage : Nat) (a_m_tape : Nat) (a_m_cuts : Nat) (a_m_letters : Nat) (a_m_seen : Nat) (a_m_pointBy : Nat) (a_m_isKept : Nat) (a_m_lanes : Nat) (a_m_lengths : Nat) (a_m_sheetCells : Nat) (sz : Nat) (m_toldOnce : Int32) (m_taped : Int32) (m_fault : Int32) (m_broken : Int32) (m_brokenAt : Int32) (m_spot : Int32) (m_here : Int32) (m_token : Int32) (m_value : Int32) (m_silent : Int32) (m_greatest : Int32) (m_moves : Int32) (m_holders : Int32) (m_seenMany : Int32) (m_torn : Int32) (m_state : Nat → Int32) (u1 : Int32) (out : (Nat → Int32)) (h : p_X6_yearOn u1 m_silent m_state = some out) : zMv l yX6_yearOn wsX6_yearOn 5 109 G k tL tM sK sV [.ref a_m, .int u1] [(a_m, .inr (6, [.ref a_m_state, .ref a_m_readPage, .int m_toldOnce, .ref a_m_tape, .int m_taped, .int m_fault, .int m_broken, .int m_brokenAt, .int m_spot, .int m_here, .int m_token, .int m_value, .ref a_m_cuts, .ref a_m_letters, .int m_silent, .int m_greatest, .int m_moves, .int m_holders, .ref a_m_seen, .int m_seenMany, .ref a_m_pointBy, .ref a_m_isKept, .ref a_m_lanes, .ref a_m_lengths, .ref a_m_sheetCells, .int m_torn])), (a_m_state, .inl (k 0, 156, .inl m_state))] [(a_m, .inr (6, [.ref a_m_state, .ref a_m_readPage, .int m_toldOnce, .ref a_m_tape, .int m_taped, .int m_fault, .int m_broken, .int m_brokenAt, .int m_spot, .int m_here, .int m_token, .int m_value, .ref a_m_cuts, .ref a_m_letters, .int m_silent, .int m_greatest, .int m_moves, .int m_holders, .ref a_m_seen, .int m_seenMany, .ref a_m_pointBy, .ref a_m_isKept, .ref a_m_lanes, .ref a_m_lengths, .ref a_m_sheetCells, .int m_torn])), (a_m_state, .inl (k 0, 156, .inl out))] sz := by
  refine z_metv (cc := cX6_yearOn) (maxL := 3) (by decide) rfl (Nat.le_of_ble_eq_true rfl) ?_
  intro p e s m below meth c A Q H locs ls hx hb hml hts hown hA hK hE hret hP hD hS hl
  have hown : s.vm.findClass RX6 = some m.cls := hown
  have hl : lv_has ls 3 [(0, .ref a_m), (1, .int u1)] := hl
  unfold p_X6_yearOn at h
  refine lv_aload_n hx hb dX6_yearOn_0 rfl (lv_at hl 0 rfl) ?_
  refine lv_iload_n hx hb dX6_yearOn_1 rfl (lv_at hl 1 rfl) ?_
  obtain ⟨o1, hv, h⟩ := zb h
  refine z_goi (w2 := [(a_m, .inr (6, [.ref a_m_state, .ref a_m_readPage, .int m_toldOnce, .ref a_m_tape, .int m_taped, .int m_fault, .int m_broken, .int m_brokenAt, .int m_spot, .int m_here, .int m_token, .int m_value, .ref a_m_cuts, .ref a_m_letters, .int m_silent, .int m_greatest, .int m_moves, .int m_holders, .ref a_m_seen, .int m_seenMany, .ref a_m_pointBy, .ref a_m_isKept, .ref a_m_lanes, .ref a_m_lengths, .ref a_m_sheetCells, .int m_torn])), (a_m_state, .inl (k 0, 156, .inl m_state))]) [0, 1] (va_runV (As := [.int u1]) (rest := []) ⟨hx, hb, hml, hown, hts⟩ (c_X6_holderOn l G k tL tM sK sV a_m a_m_state a_m_readPage a_m_tape a_m_cuts a_m_letters a_m_seen a_m_pointBy a_m_isKept a_m_lanes a_m_lengths a_m_sheetCells H.size m_toldOnce m_taped m_fault m_broken m_brokenAt m_spot m_here m_token m_value m_silent m_greatest m_moves m_holders m_seenMany m_torn m_state u1 o1 hv) (cwV 1 hts gX6_yearOn_X6_holderOn rfl rfl rfl (by decide +kernel) ⟨Nat.le_of_ble_eq_true rfl, Nat.le_of_ble_eq_true rfl⟩) (z_preV (wc := [(a_m, .inr (6, [.ref a_m_state, .ref a_m_readPage, .int m_toldOnce, .ref a_m_tape, .int m_taped, .int m_fault, .int m_broken, .int m_brokenAt, .int m_spot, .int m_here, .int m_token, .int m_value, .ref a_m_cuts, .ref a_m_letters, .int m_silent, .int m_greatest, .int m_moves, .int m_holders, .ref a_m_seen, .int m_seenMany, .ref a_m_pointBy, .ref a_m_isKept, .ref a_m_lanes, .ref a_m_lengths, .ref a_m_sheetCells, .int m_torn])), (a_m_state, .inl (k 0, 156, .inl m_state))]) [0, 1] 0 6 hK hE hA hP hD hS (by decide) rfl rfl rfl) rfl rfl hl.1 rfl (lv_room (Nat.le_of_ble_eq_true rfl)) dX6_yearOn_2 ⟨Nat.le_refl _, Nat.le_refl _⟩) hA hP hD hS rfl rfl rfl rfl (fun H locs hP hD hS => ?_)
  refine lv_istore_n (lv' := [(2, .int o1), (0, .ref a_m), (1, .int u1)]) hx hb dX6_yearOn_5 rfl hl (by decide) rfl (fun ls hl => ?_)
  refine lv_iload_n hx hb dX6_yearOn_6 rfl (lv_at hl 0 rfl) ?_
  refine lv_bipush (v := (-4)) hx hb dX6_yearOn_7 (by decide) ?_
  obtain ⟨e2, hv, h⟩ := zb h
  have hJ3 : ∀ (e2_ : (Nat → Int32)), e2_ = e2 → zW p l e (zR 5 109) s m ([.ref a_m, .int u1] : List Value).toArray below meth c Q 3 A G [(a_m, .inr (6, [.ref a_m_state, .ref a_m_readPage, .int m_toldOnce, .ref a_m_tape, .int m_taped, .int m_fault, .int m_broken, .int m_brokenAt, .int m_spot, .int m_here, .int m_token, .int m_value, .ref a_m_cuts, .ref a_m_letters, .int m_silent, .int m_greatest, .int m_moves, .int m_holders, .ref a_m_seen, .int m_seenMany, .ref a_m_pointBy, .ref a_m_isKept, .ref a_m_lanes, .ref a_m_lengths, .ref a_m_sheetCells, .int m_torn])), (a_m_state, .inl (k 0, 156, .inl e2_))] [(0, .ref a_m), (1, .int u1)] 64 [] := by
    intro e2_ hz
    subst hz
    intro H locs ls hP hD hS hl
    refine lv_aload_n hx hb dX6_yearOn_64 rfl (lv_at hl 0 rfl) ?_
    refine va_get (D := G) (ci := 6) (v := .ref a_m_state) (C := RX6) (T := TX6) (N := 26) hx hb hts iw_X6_yearOn_X6 hown hK hP 0 rfl rfl 0 (by decide) (hts (.fieldLink RX6 7 "SpireLeanModel" "state" "[I") (List.mem_of_getElem? (i := 1) rfl)) (fun _ h9 => h9) rfl dX6_yearOn_65 ?_
    refine lv_iload_n hx hb dX6_yearOn_68 rfl (lv_at hl 1 rfl) ?_
    refine lv_bipush (v := 25) hx hb dX6_yearOn_69 (by decide) ?_
    refine lv_iadd hx hb dX6_yearOn_71 ?_
    refine lv_dup2_11 hx hb dX6_yearOn_72 rfl rfl ?_
    obtain ⟨v14, hv, h⟩ := zb h
    refine z_iald hx hb hK hP 1 0 rfl rfl hv dX6_yearOn_73 ?_
    refine lv_iconst (v := 1) hx hb dX6_yearOn_74 (by decide) ?_
    refine lv_iadd hx hb dX6_yearOn_75 ?_
    obtain ⟨v15, hv, h⟩ := zb h
    refine z_iast hx hb hK hP hD hS 1 0 rfl rfl hv dX6_yearOn_76 (fun H locs hP hD hS => ?_)
    have hP : va_P G vwCl [(a_m, .inr (6, [.ref a_m_state, .ref a_m_readPage, .int m_toldOnce, .ref a_m_tape, .int m_taped, .int m_fault, .int m_broken, .int m_brokenAt, .int m_spot, .int m_here, .int m_token, .int m_value, .ref a_m_cuts, .ref a_m_letters, .int m_silent, .int m_greatest, .int m_moves, .int m_holders, .ref a_m_seen, .int m_seenMany, .ref a_m_pointBy, .ref a_m_isKept, .ref a_m_lanes, .ref a_m_lengths, .ref a_m_sheetCells, .int m_torn])), (a_m_state, .inl (k 0, 156, .inl v15))] H := hP
    have hD : va_D A [(a_m, .inr (6, [.ref a_m_state, .ref a_m_readPage, .int m_toldOnce, .ref a_m_tape, .int m_taped, .int m_fault, .int m_broken, .int m_brokenAt, .int m_spot, .int m_here, .int m_token, .int m_value, .ref a_m_cuts, .ref a_m_letters, .int m_silent, .int m_greatest, .int m_moves, .int m_holders, .ref a_m_seen, .int m_seenMany, .ref a_m_pointBy, .ref a_m_isKept, .ref a_m_lanes, .ref a_m_lengths, .ref a_m_sheetCells, .int m_torn])), (a_m_state, .inl (k 0, 156, .inl v15))] := hD
    have hr := (zs h)
    subst hr
    exact hret H locs ls 77 hP hS dX6_yearOn_77
  clear h
  have h := hv
  refine lv_icmp_eq (tgt := 31) hx hb dX6_yearOn_9 (by decide) (fun c13 => ?_) (fun c13 => ?_)
  · have h := zit c13 h
    refine lv_aload_n hx hb dX6_yearOn_31 rfl (lv_at hl 1 rfl) ?_
    refine lv_iload_n hx hb dX6_yearOn_32 rfl (lv_at hl 2 rfl) ?_
    obtain ⟨o5, hv, h⟩ := zb h
    refine z_goi (w2 := [(a_m, .inr (6, [.ref a_m_state, .ref a_m_readPage, .int m_toldOnce, .ref a_m_tape, .int m_taped, .int m_fault, .int m_broken, .int m_brokenAt, .int m_spot, .int m_here, .int m_token, .int m_value, .ref a_m_cuts, .ref a_m_letters, .int m_silent, .int m_greatest, .int m_moves, .int m_holders, .ref a_m_seen, .int m_seenMany, .ref a_m_pointBy, .ref a_m_isKept, .ref a_m_lanes, .ref a_m_lengths, .ref a_m_sheetCells, .int m_torn])), (a_m_state, .inl (k 0, 156, .inl m_state))]) [0, 1] (va_runV (As := [.int u1]) (rest := []) ⟨hx, hb, hml, hown, hts⟩ (c_X6_isFallenOn l G k tL tM sK sV a_m a_m_state a_m_readPage a_m_tape a_m_cuts a_m_letters a_m_seen a_m_pointBy a_m_isKept a_m_lanes a_m_lengths a_m_sheetCells H.size m_toldOnce m_taped m_fault m_broken m_brokenAt m_spot m_here m_token m_value m_silent m_greatest m_moves m_holders m_seenMany m_torn m_state u1 o5 hv) (cwV 1 hts gX6_yearOn_X6_isFallenOn rfl rfl rfl (by decide +kernel) ⟨Nat.le_of_ble_eq_true rfl, Nat.le_of_ble_eq_true rfl⟩) (z_preV (wc := [(a_m, .inr (6, [.ref a_m_state, .ref a_m_readPage, .int m_toldOnce, .ref a_m_tape, .int m_taped, .int m_fault, .int m_broken, .int m_brokenAt, .int m_spot, .int m_here, .int m_token, .int m_value, .ref a_m_cuts, .ref a_m_letters, .int m_silent, .int m_greatest, .int m_moves, .int m_holders, .ref a_m_seen, .int m_seenMany, .ref a_m_pointBy, .ref a_m_isKept, .ref a_m_lanes, .ref a_m_lengths, .ref a_m_sheetCells, .int m_torn])), (a_m_state, .inl (k 0, 156, .inl m_state))]) [0, 1] 0 6 hK hE hA hP hD hS (by decide) rfl rfl rfl) rfl rfl hl.1 rfl (lv_room (Nat.le_of_ble_eq_true rfl)) dX6_yearOn_33 ⟨Nat.le_refl _, Nat.le_refl _⟩) hA hP hD hS rfl rfl rfl rfl (fun H locs hP hD hS => ?_)
    refine lv_if_ne (tgt := 64) hx hb dX6_yearOn_36 (by decide) (fun c10 => ?_) (fun c10 => ?_)
    · have h := zif c10 h
      exact hJ3 _ (zs h) H locs ls hP hD hS (lv_sub hl [1, 2] rfl)
    · have h := zit c10 h
      refine lv_aload_n hx hb dX6_yearOn_39 rfl (lv_at hl 1 rfl) ?_
      refine lv_iload_n hx hb dX6_yearOn_40 rfl (lv_at hl 2 rfl) ?_
      obtain ⟨o6, hv, h⟩ := zb h
      refine z_goi (w2 := [(a_m, .inr (6, [.ref a_m_state, .ref a_m_readPage, .int m_toldOnce, .ref a_m_tape, .int m_taped, .int m_fault, .int m_broken, .int m_brokenAt, .int m_spot, .int m_here, .int m_token, .int m_value, .ref a_m_cuts, .ref a_m_letters, .int m_silent, .int m_greatest, .int m_moves, .int m_holders, .ref a_m_seen, .int m_seenMany, .ref a_m_pointBy, .ref a_m_isKept, .ref a_m_lanes, .ref a_m_lengths, .ref a_m_sheetCells, .int m_torn])), (a_m_state, .inl (k 0, 156, .inl m_state))]) [0, 1] (va_runV (As := [.int u1]) (rest := []) ⟨hx, hb, hml, hown, hts⟩ (c_X6_leanOn l G k tL tM sK sV a_m a_m_state a_m_readPage a_m_tape a_m_cuts a_m_letters a_m_seen a_m_pointBy a_m_isKept a_m_lanes a_m_lengths a_m_sheetCells H.size m_toldOnce m_taped m_fault m_broken m_brokenAt m_spot m_here m_token m_value m_silent m_greatest m_moves m_holders m_seenMany m_torn m_state u1 o6 hv) (cwV 1 hts gX6_yearOn_X6_leanOn rfl rfl rfl (by decide +kernel) ⟨Nat.le_of_ble_eq_true rfl, Nat.le_of_ble_eq_true rfl⟩) (z_preV (wc := [(a_m, .inr (6, [.ref a_m_state, .ref a_m_readPage, .int m_toldOnce, .ref a_m_tape, .int m_taped, .int m_fault, .int m_broken, .int m_brokenAt, .int m_spot, .int m_here, .int m_token, .int m_value, .ref a_m_cuts, .ref a_m_letters, .int m_silent, .int m_greatest, .int m_moves, .int m_holders, .ref a_m_seen, .int m_seenMany, .ref a_m_pointBy, .ref a_m_isKept, .ref a_m_lanes, .ref a_m_lengths, .ref a_m_sheetCells, .int m_torn])), (a_m_state, .inl (k 0, 156, .inl m_state))]) [0, 1] 0 6 hK hE hA hP hD hS (by decide) rfl rfl rfl) rfl rfl hl.1 rfl (lv_room (Nat.le_of_ble_eq_true rfl)) dX6_yearOn_41 ⟨Nat.le_refl _, Nat.le_refl _⟩) hA hP hD hS rfl rfl rfl rfl (fun H locs hP hD hS => ?_)
      refine lv_if_le (tgt := 64) hx hb dX6_yearOn_44 (by decide) (fun c9 => ?_) (fun c9 => ?_)
      · have h := zit c9 h
        exact hJ3 _ (zs h) H locs ls hP hD hS (lv_sub hl [1, 2] rfl)
      · have h := zif c9 h
        refine lv_aload_n hx hb dX6_yearOn_47 rfl (lv_at hl 1 rfl) ?_
        refine lv_iload_n hx hb dX6_yearOn_48 rfl (lv_at hl 2 rfl) ?_
        refine lv_aload_n hx hb dX6_yearOn_49 rfl (lv_at hl 1 rfl) ?_
        refine va_get (D := G) (ci := 6) (v := .ref a_m_state) (C := RX6) (T := TX6) (N := 26) hx hb hts iw_X6_yearOn_X6 hown hK hP 0 rfl rfl 0 (by decide) (hts (.fieldLink RX6 7 "SpireLeanModel" "state" "[I") (List.mem_of_getElem? (i := 1) rfl)) (fun _ h9 => h9) rfl dX6_yearOn_50 ?_
        refine lv_iload_n hx hb dX6_yearOn_53 rfl (lv_at hl 2 rfl) ?_
        refine lv_bipush (v := 21) hx hb dX6_yearOn_54 (by decide) ?_
        refine lv_iadd hx hb dX6_yearOn_56 ?_
        obtain ⟨v7, hv, h⟩ := zb h
        refine z_iald hx hb hK hP 1 0 rfl rfl hv dX6_yearOn_57 ?_
        refine lv_bipush (v := 44) hx hb dX6_yearOn_58 (by decide) ?_
        refine lv_iadd hx hb dX6_yearOn_60 ?_
        obtain ⟨o8, hv, h⟩ := zb h
        refine z_gov (w2 := [(a_m, .inr (6, [.ref a_m_state, .ref a_m_readPage, .int m_toldOnce, .ref a_m_tape, .int m_taped, .int m_fault, .int m_broken, .int m_brokenAt, .int m_spot, .int m_here, .int m_token, .int m_value, .ref a_m_cuts, .ref a_m_letters, .int m_silent, .int m_greatest, .int m_moves, .int m_holders, .ref a_m_seen, .int m_seenMany, .ref a_m_pointBy, .ref a_m_isKept, .ref a_m_lanes, .ref a_m_lengths, .ref a_m_sheetCells, .int m_torn])), (a_m_state, .inl (k 0, 156, .inl o8))]) [0, 1] (va_runV (As := [.int u1, .int (v7 + (44 : Int32))]) (rest := []) ⟨hx, hb, hml, hown, hts⟩ (c_X6_goesOn l G k tL tM sK sV a_m a_m_state a_m_readPage a_m_tape a_m_cuts a_m_letters a_m_seen a_m_pointBy a_m_isKept a_m_lanes a_m_lengths a_m_sheetCells H.size m_toldOnce m_taped m_fault m_broken m_brokenAt m_spot m_here m_token m_value m_silent m_greatest m_moves m_holders m_seenMany m_torn m_state u1 (v7 + (44 : Int32)) o8 hv) (cwV 2 hts gX6_yearOn_X6_goesOn rfl rfl rfl (by decide +kernel) ⟨Nat.le_of_ble_eq_true rfl, Nat.le_of_ble_eq_true rfl⟩) (z_preV (wc := [(a_m, .inr (6, [.ref a_m_state, .ref a_m_readPage, .int m_toldOnce, .ref a_m_tape, .int m_taped, .int m_fault, .int m_broken, .int m_brokenAt, .int m_spot, .int m_here, .int m_token, .int m_value, .ref a_m_cuts, .ref a_m_letters, .int m_silent, .int m_greatest, .int m_moves, .int m_holders, .ref a_m_seen, .int m_seenMany, .ref a_m_pointBy, .ref a_m_isKept, .ref a_m_lanes, .ref a_m_lengths, .ref a_m_sheetCells, .int m_torn])), (a_m_state, .inl (k 0, 156, .inl m_state))]) [0, 1] 0 6 hK hE hA hP hD hS (by decide) rfl rfl rfl) rfl rfl hl.1 rfl (lv_room (Nat.le_of_ble_eq_true rfl)) dX6_yearOn_61 ⟨Nat.le_refl _, Nat.le_refl _⟩) hA hP hD hS rfl rfl rfl rfl (fun H locs hP hD hS => ?_)
        exact hJ3 _ (zs h) H locs ls hP hD hS (lv_sub hl [1, 2] rfl)
  · have h := zif c13 h
    refine lv_aload_n hx hb dX6_yearOn_12 rfl (lv_at hl 1 rfl) ?_
    refine lv_iload_n hx hb dX6_yearOn_13 rfl (lv_at hl 2 rfl) ?_
    refine lv_aload_n hx hb dX6_yearOn_14 rfl (lv_at hl 1 rfl) ?_
    refine va_get (D := G) (ci := 6) (v := .ref a_m_state) (C := RX6) (T := TX6) (N := 26) hx hb hts iw_X6_yearOn_X6 hown hK hP 0 rfl rfl 0 (by decide) (hts (.fieldLink RX6 7 "SpireLeanModel" "state" "[I") (List.mem_of_getElem? (i := 1) rfl)) (fun _ h9 => h9) rfl dX6_yearOn_15 ?_
    refine lv_iload_n hx hb dX6_yearOn_18 rfl (lv_at hl 2 rfl) ?_
    refine lv_bipush (v := 10) hx hb dX6_yearOn_19 (by decide) ?_
    refine lv_iadd hx hb dX6_yearOn_21 ?_
    refine lv_iload_n hx hb dX6_yearOn_22 rfl (lv_at hl 0 rfl) ?_
    refine lv_iadd hx hb dX6_yearOn_23 ?_
    obtain ⟨v11, hv, h⟩ := zb h
    refine z_iald hx hb hK hP 1 0 rfl rfl hv dX6_yearOn_24 ?_
    obtain ⟨o12, hv, h⟩ := zb h
    refine z_gov (w2 := [(a_m, .inr (6, [.ref a_m_state, .ref a_m_readPage, .int m_toldOnce, .ref a_m_tape, .int m_taped, .int m_fault, .int m_broken, .int m_brokenAt, .int m_spot, .int m_here, .int m_token, .int m_value, .ref a_m_cuts, .ref a_m_letters, .int m_silent, .int m_greatest, .int m_moves, .int m_holders, .ref a_m_seen, .int m_seenMany, .ref a_m_pointBy, .ref a_m_isKept, .ref a_m_lanes, .ref a_m_lengths, .ref a_m_sheetCells, .int m_torn])), (a_m_state, .inl (k 0, 156, .inl o12))]) [0, 1] (va_runV (As := [.int u1, .int v11]) (rest := []) ⟨hx, hb, hml, hown, hts⟩ (c_X6_goesOn l G k tL tM sK sV a_m a_m_state a_m_readPage a_m_tape a_m_cuts a_m_letters a_m_seen a_m_pointBy a_m_isKept a_m_lanes a_m_lengths a_m_sheetCells H.size m_toldOnce m_taped m_fault m_broken m_brokenAt m_spot m_here m_token m_value m_silent m_greatest m_moves m_holders m_seenMany m_torn m_state u1 v11 o12 hv) (cwV 2 hts gX6_yearOn_X6_goesOn rfl rfl rfl (by decide +kernel) ⟨Nat.le_of_ble_eq_true rfl, Nat.le_of_ble_eq_true rfl⟩) (z_preV (wc := [(a_m, .inr (6, [.ref a_m_state, .ref a_m_readPage, .int m_toldOnce, .ref a_m_tape, .int m_taped, .int m_fault, .int m_broken, .int m_brokenAt, .int m_spot, .int m_here, .int m_token, .int m_value, .ref a_m_cuts, .ref a_m_letters, .int m_silent, .int m_greatest, .int m_moves, .int m_holders, .ref a_m_seen, .int m_seenMany, .ref a_m_pointBy, .ref a_m_isKept, .ref a_m_lanes, .ref a_m_lengths, .ref a_m_sheetCells, .int m_torn])), (a_m_state, .inl (k 0, 156, .inl m_state))]) [0, 1] 0 6 hK hE hA hP hD hS (by decide) rfl rfl rfl) rfl rfl hl.1 rfl (lv_room (Nat.le_of_ble_eq_true rfl)) dX6_yearOn_25 ⟨Nat.le_refl _, Nat.le_refl _⟩) hA hP hD hS rfl rfl rfl rfl (fun H locs hP hD hS => ?_)
    refine lv_goto (tgt := 64) hx hb dX6_yearOn_28 (by decide) ?_
    exact hJ3 _ (zs h) H locs ls hP hD hS (lv_sub hl [1, 2] rfl)
