theorem iw_X6_site_X6 : ∀ w ∈ wsX60, w ∈ wsX6_site := fun _ h => List.mem_cons_of_mem _ (List.mem_append_right _ h)
set_option maxHeartbeats 4000000 in
set_option maxRecDepth 100000 in
theorem c_X6_site (l : Launch) (G : va_G) (k : Nat → ClassId) (tL tM : Nat) (sK sV : Nat → Nat) (a_m : Nat) (a_m_state : Nat) (a_m_readPage : Nat) (a_m_tape : Nat) (a_m_cuts : Nat) (a_m_letters : Nat) (a_m_seen : Nat) (a_m_pointBy : Nat) (a_m_isKept : Nat) (a_m_lanes : Nat) (a_m_lengths : Nat) (a_m_sheetCells : Nat) (sz : Nat) (m_toldOnce : Int32) (m_taped : Int32) (m_fault : Int32) (m_broken : Int32) (m_brokenAt : Int32) (m_spot : Int32) (m_here : Int32) (m_token : Int32) (m_value : Int32) (m_silent : Int32) (m_greatest : Int32) (m_moves : Int32) (m_holders : Int32) (m_seenMany : Int32) (m_torn : Int32) (m_state : Nat → Int32) (u1 : Int32) (u2 : Int32) (u3 : Int32) (u4 : Int32) (out : Int32 × (Nat → Int32)) (h : p_X6_site u1 u2 u3 u4 m_silent m_state = some out) : zMi l yX6_site wsX6_site 7 154 G k tL tM sK sV [.ref a_m, .int u1, .int u2, .int u3, .int u4] [(a_m, .inr (6, [.ref a_m_state, .ref a_m_readPage, .int m_toldOnce, .ref a_m_tape, .int m_taped, .int m_fault, .int m_broken, .int m_brokenAt, .int m_spot, .int m_here, .int m_token, .int m_value, .ref a_m_cuts, .ref a_m_letters, .int m_silent, .int m_greatest, .int m_moves, .int m_holders, .ref a_m_seen, .int m_seenMany, .ref a_m_pointBy, .ref a_m_isKept, .ref a_m_lanes, .ref a_m_lengths, .ref a_m_sheetCells, .int m_torn])), (a_m_state, .inl (k 0, 156, .inl m_state))] [(a_m, .inr (6, [.ref a_m_state, .ref a_m_readPage, .int m_toldOnce, .ref a_m_tape, .int m_taped, .int m_fault, .int m_broken, .int m_brokenAt, .int m_spot, .int m_here, .int m_token, .int m_value, .ref a_m_cuts, .ref a_m_letters, .int m_silent, .int m_greatest, .int m_moves, .int m_holders, .ref a_m_seen, .int m_seenMany, .ref a_m_pointBy, .ref a_m_isKept, .ref a_m_lanes, .ref a_m_lengths, .ref a_m_sheetCells, .int m_torn])), (a_m_state, .inl (k 0, 156, .inl out.2))] out.1 sz := by
  refine z_meti (cc := cX6_site) (maxL := 9) (by decide) rfl (Nat.le_of_ble_eq_true rfl) ?_
  intro p e s m below meth c A Q H locs ls hx hb hml hts hown hA hK hE hret hP hD hS hl
  have hown : s.vm.findClass RX6 = some m.cls := hown
  have hl : lv_has ls 9 [(0, .ref a_m), (1, .int u1), (2, .int u2), (3, .int u3), (4, .int u4)] := hl
  unfold p_X6_site at h
  refine lv_iload_n hx hb dX6_site_0 rfl (lv_at hl 1 rfl) ?_
  refine lv_iload_n hx hb dX6_site_1 rfl (lv_at hl 2 rfl) ?_
  refine lv_iload_n hx hb dX6_site_2 rfl (lv_at hl 3 rfl) ?_
  obtain ⟨o1, hv, h⟩ := zb h
  refine z_goi (w2 := [(a_m, .inr (6, [.ref a_m_state, .ref a_m_readPage, .int m_toldOnce, .ref a_m_tape, .int m_taped, .int m_fault, .int m_broken, .int m_brokenAt, .int m_spot, .int m_here, .int m_token, .int m_value, .ref a_m_cuts, .ref a_m_letters, .int m_silent, .int m_greatest, .int m_moves, .int m_holders, .ref a_m_seen, .int m_seenMany, .ref a_m_pointBy, .ref a_m_isKept, .ref a_m_lanes, .ref a_m_lengths, .ref a_m_sheetCells, .int m_torn])), (a_m_state, .inl (k 0, 156, .inl m_state))]) [] (va_runS (As := [.int u1, .int u2, .int u3]) (rest := []) ⟨hx, hb, hml, hown, hts⟩ (c_X6_isPut l G k tL tM sK sV H.size u1 u2 u3 o1 hv) (va_cwS 3 hts gX6_site_X6_isPut rfl rfl rfl (by decide +kernel) ⟨Nat.le_of_ble_eq_true rfl, Nat.le_of_ble_eq_true rfl⟩) (z_preS (wc := []) [] hK hE hA hP hD hS (by decide) rfl) rfl rfl hl.1 rfl (lv_room (Nat.le_of_ble_eq_true rfl)) dX6_site_3 ⟨Nat.le_refl _, Nat.le_refl _⟩) hA hP hD hS rfl rfl rfl rfl (fun H locs hP hD hS => ?_)
  refine lv_if_eq (tgt := 20) hx hb dX6_site_6 (by decide) (fun c27 => ?_) (fun c27 => ?_)
  · have h := zit c27 h
    refine lv_iconst (v := (-1)) hx hb dX6_site_20 (by decide) ?_
    have hr := (zs h)
    subst hr
    exact hret H locs ls 21 hP hS dX6_site_21
  · have h := zif c27 h
    refine lv_iload hx hb dX6_site_9 (lv_at hl 4 rfl) ?_
    refine lv_i2l (v := u4.toInt64) hx hb dX6_site_11 rfl ?_
    refine lv_lconst (v := 0) hx hb dX6_site_12 (by decide) ?_
    refine lv_lconst (v := 1) hx hb dX6_site_13 (by decide) ?_
    obtain ⟨o2, hv, h⟩ := zb h
    refine z_goi (w2 := [(a_m, .inr (6, [.ref a_m_state, .ref a_m_readPage, .int m_toldOnce, .ref a_m_tape, .int m_taped, .int m_fault, .int m_broken, .int m_brokenAt, .int m_spot, .int m_here, .int m_token, .int m_value, .ref a_m_cuts, .ref a_m_letters, .int m_silent, .int m_greatest, .int m_moves, .int m_holders, .ref a_m_seen, .int m_seenMany, .ref a_m_pointBy, .ref a_m_isKept, .ref a_m_lanes, .ref a_m_lengths, .ref a_m_sheetCells, .int m_torn])), (a_m_state, .inl (k 0, 156, .inl m_state))]) [] (va_runS (As := [.long u4.toInt64, .long (0 : Int64), .long (1 : Int64)]) (rest := []) ⟨hx, hb, hml, hown, hts⟩ (c_X6_in l G k tL tM sK sV H.size u4.toInt64 (0 : Int64) (1 : Int64) o2 hv) (va_cwS 3 hts gX6_site_X6_in rfl rfl rfl (by decide +kernel) ⟨Nat.le_of_ble_eq_true rfl, Nat.le_of_ble_eq_true rfl⟩) (z_preS (wc := []) [] hK hE hA hP hD hS (by decide) rfl) rfl rfl hl.1 rfl (lv_room (Nat.le_of_ble_eq_true rfl)) dX6_site_14 ⟨Nat.le_refl _, Nat.le_refl _⟩) hA hP hD hS rfl rfl rfl rfl (fun H locs hP hD hS => ?_)
    refine lv_if_ne (tgt := 22) hx hb dX6_site_17 (by decide) (fun c26 => ?_) (fun c26 => ?_)
    · have h := zif c26 h
      refine lv_aload_n hx hb dX6_site_22 rfl (lv_at hl 0 rfl) ?_
      refine va_get (D := G) (ci := 6) (v := .ref a_m_state) (C := RX6) (T := TX6) (N := 26) hx hb hts iw_X6_site_X6 hown hK hP 0 rfl rfl 0 (by decide) (hts (.fieldLink RX6 7 "SpireLeanModel" "state" "[I") (List.mem_of_getElem? (i := 1) rfl)) (fun _ h9 => h9) rfl dX6_site_23 ?_
      refine lv_bipush (v := 20) hx hb dX6_site_26 (by decide) ?_
      obtain ⟨v3, hv, h⟩ := zb h
      refine z_iald hx hb hK hP 1 0 rfl rfl hv dX6_site_28 ?_
      refine lv_iconst (v := 5) hx hb dX6_site_29 (by decide) ?_
      refine lv_icmp_ne (tgt := 36) hx hb dX6_site_30 (by decide) (fun c25 => ?_) (fun c25 => ?_)
      · have h := zif c25 h
        refine lv_bipush (v := 100) hx hb dX6_site_36 (by decide) ?_
        refine lv_istore (lv' := [(5, .int (100 : Int32)), (0, .ref a_m), (1, .int u1), (2, .int u2), (3, .int u3), (4, .int u4)]) hx hb dX6_site_38 hl (by decide) rfl (fun ls hl => ?_)
        refine lv_bipush (v := (-4)) hx hb dX6_site_40 (by decide) ?_
        refine lv_istore (lv' := [(6, .int (-4 : Int32)), (5, .int (100 : Int32)), (0, .ref a_m), (1, .int u1), (2, .int u2), (3, .int u3), (4, .int u4)]) hx hb dX6_site_42 hl (by decide) rfl (fun ls hl => ?_)
        refine lv_iconst (v := 0) hx hb dX6_site_44 (by decide) ?_
        refine lv_istore (lv' := [(7, .int (0 : Int32)), (6, .int (-4 : Int32)), (5, .int (100 : Int32)), (0, .ref a_m), (1, .int u1), (2, .int u2), (3, .int u3), (4, .int u4)]) hx hb dX6_site_45 hl (by decide) rfl (fun ls hl => ?_)
        obtain ⟨e8, hv, h⟩ := zb h
        have hJ7 : ∀ (e8_ : Int32 × Int32 × (Nat → Int32)), e8_ = e8 → zW p l e (zR 7 154) s m ([.ref a_m, .int u1, .int u2, .int u3, .int u4] : List Value).toArray below meth c Q 9 A G [(a_m, .inr (6, [.ref a_m_state, .ref a_m_readPage, .int m_toldOnce, .ref a_m_tape, .int m_taped, .int m_fault, .int m_broken, .int m_brokenAt, .int m_spot, .int m_here, .int m_token, .int m_value, .ref a_m_cuts, .ref a_m_letters, .int m_silent, .int m_greatest, .int m_moves, .int m_holders, .ref a_m_seen, .int m_seenMany, .ref a_m_pointBy, .ref a_m_isKept, .ref a_m_lanes, .ref a_m_lengths, .ref a_m_sheetCells, .int m_torn])), (a_m_state, .inl (k 0, 156, .inl e8_.2.2))] [(4, .int u4), (5, .int e8_.1), (6, .int e8_.2.1)] 135 [] := by
          intro e8_ hz
          subst hz
          intro H locs ls hP hD hS hl
          refine lv_iload hx hb dX6_site_135 (lv_at hl 2 rfl) ?_
          refine lv_bipush (v := (-4)) hx hb dX6_site_137 (by decide) ?_
          refine lv_icmp_eq (tgt := 147) hx hb dX6_site_139 (by decide) (fun c24 => ?_) (fun c24 => ?_)
          · have h := zit c24 h
            refine lv_iload hx hb dX6_site_147 (lv_at hl 2 rfl) ?_
            refine lv_goto (tgt := 154) hx hb dX6_site_149 (by decide) ?_
            have hr := (zs h)
            subst hr
            exact hret H locs ls 154 hP hS dX6_site_154
          · have h := zif c24 h
            refine lv_iload hx hb dX6_site_142 (lv_at hl 0 rfl) ?_
            refine lv_if_ne (tgt := 152) hx hb dX6_site_144 (by decide) (fun c23 => ?_) (fun c23 => ?_)
            · have h := zif c23 h
              refine lv_iload hx hb dX6_site_152 (lv_at hl 1 rfl) ?_
              have hr := (zs h)
              subst hr
              exact hret H locs ls 154 hP hS dX6_site_154
            · have h := zit c23 h
              refine lv_iload hx hb dX6_site_147 (lv_at hl 2 rfl) ?_
              refine lv_goto (tgt := 154) hx hb dX6_site_149 (by decide) ?_
              have hr := (zs h)
              subst hr
              exact hret H locs ls 154 hP hS dX6_site_154
        refine z_lpW (Wh := fun (x4 : Int32 × Int32 × Int32 × (Nat → Int32)) => zW p l e (zR 7 154) s m ([.ref a_m, .int u1, .int u2, .int u3, .int u4] : List Value).toArray below meth c Q 9 A G [(a_m, .inr (6, [.ref a_m_state, .ref a_m_readPage, .int m_toldOnce, .ref a_m_tape, .int m_taped, .int m_fault, .int m_broken, .int m_brokenAt, .int m_spot, .int m_here, .int m_token, .int m_value, .ref a_m_cuts, .ref a_m_letters, .int m_silent, .int m_greatest, .int m_moves, .int m_holders, .ref a_m_seen, .int m_seenMany, .ref a_m_pointBy, .ref a_m_isKept, .ref a_m_lanes, .ref a_m_lengths, .ref a_m_sheetCells, .int m_torn])), (a_m_state, .inl (k 0, 156, .inl x4.2.2.2))] [(0, .ref a_m), (1, .int u1), (2, .int u2), (3, .int u3), (4, .int u4), (5, .int x4.1), (6, .int x4.2.1), (7, .int x4.2.2.1)] 47 []) ?_ 1000 _ hv H locs ls hP hD hS (lv_sub hl [3, 4, 5, 6, 7, 2, 1, 0] rfl)
        clear h
        intro x4 o h hC5 hX6 H locs ls hP hD hS hl
        unfold p_X6_site_b47 at h
        refine lv_iload hx hb dX6_site_47 (lv_at hl 7 rfl) ?_
        refine lv_bipush (v := 100) hx hb dX6_site_49 (by decide) ?_
        refine lv_icmp_ge (tgt := 135) hx hb dX6_site_51 (by decide) (fun c22 => ?_) (fun c22 => ?_)
        · have h := zit c22 h
          exact hJ7 _ (hX6 _ (zs h)) H locs ls hP hD hS (lv_sub hl [4, 5, 6] rfl)
        · have h := zif c22 h
          refine lv_aload_n hx hb dX6_site_54 rfl (lv_at hl 0 rfl) ?_
          refine lv_iconst (v := 0) hx hb dX6_site_55 (by decide) ?_
          refine lv_sipush (v := 130) hx hb dX6_site_56 (by decide) ?_
          obtain ⟨o10, hv, h⟩ := zb h
          refine z_gov (w2 := [(a_m, .inr (6, [.ref a_m_state, .ref a_m_readPage, .int m_toldOnce, .ref a_m_tape, .int m_taped, .int m_fault, .int m_broken, .int m_brokenAt, .int m_spot, .int m_here, .int m_token, .int m_value, .ref a_m_cuts, .ref a_m_letters, .int m_silent, .int m_greatest, .int m_moves, .int m_holders, .ref a_m_seen, .int m_seenMany, .ref a_m_pointBy, .ref a_m_isKept, .ref a_m_lanes, .ref a_m_lengths, .ref a_m_sheetCells, .int m_torn])), (a_m_state, .inl (k 0, 156, .inl o10))]) [0, 1] (va_runV (As := [.int (0 : Int32), .int (130 : Int32)]) (rest := []) ⟨hx, hb, hml, hown, hts⟩ (c_X6_copies l G k tL tM sK sV a_m a_m_state a_m_readPage a_m_tape a_m_cuts a_m_letters a_m_seen a_m_pointBy a_m_isKept a_m_lanes a_m_lengths a_m_sheetCells H.size m_toldOnce m_taped m_fault m_broken m_brokenAt m_spot m_here m_token m_value m_silent m_greatest m_moves m_holders m_seenMany m_torn x4.2.2.2 (0 : Int32) (130 : Int32) o10 hv) (cwV 2 hts gX6_site_X6_copies rfl rfl rfl (by decide +kernel) ⟨Nat.le_of_ble_eq_true rfl, Nat.le_of_ble_eq_true rfl⟩) (z_preV (wc := [(a_m, .inr (6, [.ref a_m_state, .ref a_m_readPage, .int m_toldOnce, .ref a_m_tape, .int m_taped, .int m_fault, .int m_broken, .int m_brokenAt, .int m_spot, .int m_here, .int m_token, .int m_value, .ref a_m_cuts, .ref a_m_letters, .int m_silent, .int m_greatest, .int m_moves, .int m_holders, .ref a_m_seen, .int m_seenMany, .ref a_m_pointBy, .ref a_m_isKept, .ref a_m_lanes, .ref a_m_lengths, .ref a_m_sheetCells, .int m_torn])), (a_m_state, .inl (k 0, 156, .inl x4.2.2.2))]) [0, 1] 0 6 hK hE hA hP hD hS (by decide) rfl rfl rfl) rfl rfl hl.1 rfl (lv_room (Nat.le_of_ble_eq_true rfl)) dX6_site_59 ⟨Nat.le_refl _, Nat.le_refl _⟩) hA hP hD hS rfl rfl rfl rfl (fun H locs hP hD hS => ?_)
          refine lv_aload_n hx hb dX6_site_62 rfl (lv_at hl 0 rfl) ?_
          refine lv_sipush (v := 130) hx hb dX6_site_63 (by decide) ?_
          refine lv_iload_n hx hb dX6_site_66 rfl (lv_at hl 1 rfl) ?_
          refine lv_iload_n hx hb dX6_site_67 rfl (lv_at hl 2 rfl) ?_
          refine lv_iload hx hb dX6_site_68 (lv_at hl 7 rfl) ?_
          obtain ⟨o11, hv, h⟩ := zb h
          refine z_gov (w2 := [(a_m, .inr (6, [.ref a_m_state, .ref a_m_readPage, .int m_toldOnce, .ref a_m_tape, .int m_taped, .int m_fault, .int m_broken, .int m_brokenAt, .int m_spot, .int m_here, .int m_token, .int m_value, .ref a_m_cuts, .ref a_m_letters, .int m_silent, .int m_greatest, .int m_moves, .int m_holders, .ref a_m_seen, .int m_seenMany, .ref a_m_pointBy, .ref a_m_isKept, .ref a_m_lanes, .ref a_m_lengths, .ref a_m_sheetCells, .int m_torn])), (a_m_state, .inl (k 0, 156, .inl o11))]) [0, 1] (va_runV (As := [.int (130 : Int32), .int u1, .int u2, .int x4.2.2.1]) (rest := []) ⟨hx, hb, hml, hown, hts⟩ (c_X6_putsOn l G k tL tM sK sV a_m a_m_state a_m_readPage a_m_tape a_m_cuts a_m_letters a_m_seen a_m_pointBy a_m_isKept a_m_lanes a_m_lengths a_m_sheetCells H.size m_toldOnce m_taped m_fault m_broken m_brokenAt m_spot m_here m_token m_value m_silent m_greatest m_moves m_holders m_seenMany m_torn o10 (130 : Int32) u1 u2 x4.2.2.1 o11 hv) (cwV 4 hts gX6_site_X6_putsOn rfl rfl rfl (by decide +kernel) ⟨Nat.le_of_ble_eq_true rfl, Nat.le_of_ble_eq_true rfl⟩) (z_preV (wc := [(a_m, .inr (6, [.ref a_m_state, .ref a_m_readPage, .int m_toldOnce, .ref a_m_tape, .int m_taped, .int m_fault, .int m_broken, .int m_brokenAt, .int m_spot, .int m_here, .int m_token, .int m_value, .ref a_m_cuts, .ref a_m_letters, .int m_silent, .int m_greatest, .int m_moves, .int m_holders, .ref a_m_seen, .int m_seenMany, .ref a_m_pointBy, .ref a_m_isKept, .ref a_m_lanes, .ref a_m_lengths, .ref a_m_sheetCells, .int m_torn])), (a_m_state, .inl (k 0, 156, .inl o10))]) [0, 1] 0 6 hK hE hA hP hD hS (by decide) rfl rfl rfl) rfl rfl hl.1 rfl (lv_room (Nat.le_of_ble_eq_true rfl)) dX6_site_70 ⟨Nat.le_refl _, Nat.le_refl _⟩) hA hP hD hS rfl rfl rfl rfl (fun H locs hP hD hS => ?_)
          refine lv_aload_n hx hb dX6_site_73 rfl (lv_at hl 0 rfl) ?_
          refine lv_sipush (v := 130) hx hb dX6_site_74 (by decide) ?_
          refine lv_iload_n hx hb dX6_site_77 rfl (lv_at hl 3 rfl) ?_
          obtain ⟨o12, hv, h⟩ := zb h
          refine z_goi (w2 := [(a_m, .inr (6, [.ref a_m_state, .ref a_m_readPage, .int m_toldOnce, .ref a_m_tape, .int m_taped, .int m_fault, .int m_broken, .int m_brokenAt, .int m_spot, .int m_here, .int m_token, .int m_value, .ref a_m_cuts, .ref a_m_letters, .int m_silent, .int m_greatest, .int m_moves, .int m_holders, .ref a_m_seen, .int m_seenMany, .ref a_m_pointBy, .ref a_m_isKept, .ref a_m_lanes, .ref a_m_lengths, .ref a_m_sheetCells, .int m_torn])), (a_m_state, .inl (k 0, 156, .inl o12.2))]) [0, 1] (va_runV (As := [.int (130 : Int32), .int u3]) (rest := []) ⟨hx, hb, hml, hown, hts⟩ (c_X6_comesOn l G k tL tM sK sV a_m a_m_state a_m_readPage a_m_tape a_m_cuts a_m_letters a_m_seen a_m_pointBy a_m_isKept a_m_lanes a_m_lengths a_m_sheetCells H.size m_toldOnce m_taped m_fault m_broken m_brokenAt m_spot m_here m_token m_value m_silent m_greatest m_moves m_holders m_seenMany m_torn o11 (130 : Int32) u3 o12 hv) (cwV 2 hts gX6_site_X6_comesOn rfl rfl rfl (by decide +kernel) ⟨Nat.le_of_ble_eq_true rfl, Nat.le_of_ble_eq_true rfl⟩) (z_preV (wc := [(a_m, .inr (6, [.ref a_m_state, .ref a_m_readPage, .int m_toldOnce, .ref a_m_tape, .int m_taped, .int m_fault, .int m_broken, .int m_brokenAt, .int m_spot, .int m_here, .int m_token, .int m_value, .ref a_m_cuts, .ref a_m_letters, .int m_silent, .int m_greatest, .int m_moves, .int m_holders, .ref a_m_seen, .int m_seenMany, .ref a_m_pointBy, .ref a_m_isKept, .ref a_m_lanes, .ref a_m_lengths, .ref a_m_sheetCells, .int m_torn])), (a_m_state, .inl (k 0, 156, .inl o11))]) [0, 1] 0 6 hK hE hA hP hD hS (by decide) rfl rfl rfl) rfl rfl hl.1 rfl (lv_room (Nat.le_of_ble_eq_true rfl)) dX6_site_78 ⟨Nat.le_refl _, Nat.le_refl _⟩) hA hP hD hS rfl rfl rfl rfl (fun H locs hP hD hS => ?_)
          refine lv_istore (lv' := [(8, .int o12.1), (0, .ref a_m), (1, .int u1), (2, .int u2), (3, .int u3), (4, .int u4), (5, .int x4.1), (6, .int x4.2.1), (7, .int x4.2.2.1)]) hx hb dX6_site_81 hl (by decide) rfl (fun ls hl => ?_)
          refine lv_iload hx hb dX6_site_83 (lv_at hl 0 rfl) ?_
          refine lv_bipush (v := (-4)) hx hb dX6_site_85 (by decide) ?_
          refine lv_icmp_eq (tgt := 102) hx hb dX6_site_87 (by decide) (fun c21 => ?_) (fun c21 => ?_)
          · have h := zit c21 h
            refine lv_iload hx hb dX6_site_102 (lv_at hl 7 rfl) ?_
            refine lv_istore (lv' := [(6, .int x4.2.1), (8, .int o12.1), (0, .ref a_m), (1, .int u1), (2, .int u2), (3, .int u3), (4, .int u4), (5, .int x4.1), (7, .int x4.2.2.1)]) hx hb dX6_site_104 hl (by decide) rfl (fun ls hl => ?_)
            refine lv_iload hx hb dX6_site_106 (lv_at hl 1 rfl) ?_
            refine lv_bipush (v := (-4)) hx hb dX6_site_108 (by decide) ?_
            refine lv_icmp_eq (tgt := 125) hx hb dX6_site_110 (by decide) (fun c14 => ?_) (fun c14 => ?_)
            · have h := zit c14 h
              refine lv_iload hx hb dX6_site_125 (lv_at hl 7 rfl) ?_
              refine lv_istore (lv' := [(5, .int x4.1), (6, .int x4.2.1), (8, .int o12.1), (0, .ref a_m), (1, .int u1), (2, .int u2), (3, .int u3), (4, .int u4), (7, .int x4.2.2.1)]) hx hb dX6_site_127 hl (by decide) rfl (fun ls hl => ?_)
              refine lv_iinc (v := x4.2.2.1 + (1 : Int32)) (lv' := [(7, .int (x4.2.2.1 + (1 : Int32))), (5, .int x4.1), (6, .int x4.2.1), (8, .int o12.1), (0, .ref a_m), (1, .int u1), (2, .int u2), (3, .int u3), (4, .int u4)]) hx hb dX6_site_129 hl (k := 8) rfl rfl (by decide) rfl (fun ls hl => ?_)
              refine lv_goto (tgt := 47) hx hb dX6_site_132 (by decide) ?_
              exact hC5 _ (zs h) H locs ls hP hD hS (lv_sub hl [4, 5, 6, 7, 8, 1, 2, 0] rfl)
            · have h := zif c14 h
              refine lv_iload hx hb dX6_site_113 (lv_at hl 1 rfl) ?_
              refine lv_iload hx hb dX6_site_115 (lv_at hl 7 rfl) ?_
              refine lv_icmp_ge (tgt := 125) hx hb dX6_site_117 (by decide) (fun c13 => ?_) (fun c13 => ?_)
              · have h := zit c13 h
                refine lv_iload hx hb dX6_site_125 (lv_at hl 7 rfl) ?_
                refine lv_istore (lv' := [(5, .int x4.1), (6, .int x4.2.1), (8, .int o12.1), (0, .ref a_m), (1, .int u1), (2, .int u2), (3, .int u3), (4, .int u4), (7, .int x4.2.2.1)]) hx hb dX6_site_127 hl (by decide) rfl (fun ls hl => ?_)
                refine lv_iinc (v := x4.2.2.1 + (1 : Int32)) (lv' := [(7, .int (x4.2.2.1 + (1 : Int32))), (5, .int x4.1), (6, .int x4.2.1), (8, .int o12.1), (0, .ref a_m), (1, .int u1), (2, .int u2), (3, .int u3), (4, .int u4)]) hx hb dX6_site_129 hl (k := 8) rfl rfl (by decide) rfl (fun ls hl => ?_)
                refine lv_goto (tgt := 47) hx hb dX6_site_132 (by decide) ?_
                exact hC5 _ (zs h) H locs ls hP hD hS (lv_sub hl [4, 5, 6, 7, 8, 1, 2, 0] rfl)
              · have h := zif c13 h
                refine lv_iload hx hb dX6_site_120 (lv_at hl 1 rfl) ?_
                refine lv_goto (tgt := 127) hx hb dX6_site_122 (by decide) ?_
                refine lv_istore (lv' := [(5, .int o12.1), (6, .int x4.2.1), (8, .int o12.1), (0, .ref a_m), (1, .int u1), (2, .int u2), (3, .int u3), (4, .int u4), (7, .int x4.2.2.1)]) hx hb dX6_site_127 hl (by decide) rfl (fun ls hl => ?_)
                refine lv_iinc (v := x4.2.2.1 + (1 : Int32)) (lv' := [(7, .int (x4.2.2.1 + (1 : Int32))), (5, .int o12.1), (6, .int x4.2.1), (8, .int o12.1), (0, .ref a_m), (1, .int u1), (2, .int u2), (3, .int u3), (4, .int u4)]) hx hb dX6_site_129 hl (k := 8) rfl rfl (by decide) rfl (fun ls hl => ?_)
                refine lv_goto (tgt := 47) hx hb dX6_site_132 (by decide) ?_
                exact hC5 _ (zs h) H locs ls hP hD hS (lv_sub hl [4, 5, 6, 7, 8, 1, 2, 0] rfl)
          · have h := zif c21 h
            refine lv_iload hx hb dX6_site_90 (lv_at hl 0 rfl) ?_
            refine lv_iload hx hb dX6_site_92 (lv_at hl 6 rfl) ?_
            have hJ15 : ∀ (y16 : Int32), y16 = (if x4.1 ≤ o12.1 then x4.2.1 else x4.2.2.1) → zW p l e (zR 7 154) s m ([.ref a_m, .int u1, .int u2, .int u3, .int u4] : List Value).toArray below meth c Q 9 A G [(a_m, .inr (6, [.ref a_m_state, .ref a_m_readPage, .int m_toldOnce, .ref a_m_tape, .int m_taped, .int m_fault, .int m_broken, .int m_brokenAt, .int m_spot, .int m_here, .int m_token, .int m_value, .ref a_m_cuts, .ref a_m_letters, .int m_silent, .int m_greatest, .int m_moves, .int m_holders, .ref a_m_seen, .int m_seenMany, .ref a_m_pointBy, .ref a_m_isKept, .ref a_m_lanes, .ref a_m_lengths, .ref a_m_sheetCells, .int m_torn])), (a_m_state, .inl (k 0, 156, .inl o12.2))] [(0, .ref a_m), (1, .int u1), (2, .int u2), (3, .int u3), (4, .int u4), (5, .int x4.1), (7, .int x4.2.2.1), (8, .int o12.1)] 104 [.int y16] := by
              intro y16 q17
              subst q17
              intro H locs ls hP hD hS hl
              refine lv_istore (lv' := [(6, .int (if x4.1 ≤ o12.1 then x4.2.1 else x4.2.2.1)), (0, .ref a_m), (1, .int u1), (2, .int u2), (3, .int u3), (4, .int u4), (5, .int x4.1), (7, .int x4.2.2.1), (8, .int o12.1)]) hx hb dX6_site_104 hl (by decide) rfl (fun ls hl => ?_)
              refine lv_iload hx hb dX6_site_106 (lv_at hl 8 rfl) ?_
              refine lv_bipush (v := (-4)) hx hb dX6_site_108 (by decide) ?_
              refine lv_icmp_eq (tgt := 125) hx hb dX6_site_110 (by decide) (fun c20 => ?_) (fun c20 => ?_)
              · have h := zit c20 h
                refine lv_iload hx hb dX6_site_125 (lv_at hl 6 rfl) ?_
                refine lv_istore (lv' := [(5, .int x4.1), (6, .int (if x4.1 ≤ o12.1 then x4.2.1 else x4.2.2.1)), (0, .ref a_m), (1, .int u1), (2, .int u2), (3, .int u3), (4, .int u4), (7, .int x4.2.2.1), (8, .int o12.1)]) hx hb dX6_site_127 hl (by decide) rfl (fun ls hl => ?_)
                refine lv_iinc (v := x4.2.2.1 + (1 : Int32)) (lv' := [(7, .int (x4.2.2.1 + (1 : Int32))), (5, .int x4.1), (6, .int (if x4.1 ≤ o12.1 then x4.2.1 else x4.2.2.1)), (0, .ref a_m), (1, .int u1), (2, .int u2), (3, .int u3), (4, .int u4), (8, .int o12.1)]) hx hb dX6_site_129 hl (k := 7) rfl rfl (by decide) rfl (fun ls hl => ?_)
                refine lv_goto (tgt := 47) hx hb dX6_site_132 (by decide) ?_
                exact hC5 _ (zs h) H locs ls hP hD hS (lv_sub hl [3, 4, 5, 6, 7, 1, 2, 0] rfl)
              · have h := zif c20 h
                refine lv_iload hx hb dX6_site_113 (lv_at hl 8 rfl) ?_
                refine lv_iload hx hb dX6_site_115 (lv_at hl 6 rfl) ?_
                refine lv_icmp_ge (tgt := 125) hx hb dX6_site_117 (by decide) (fun c19 => ?_) (fun c19 => ?_)
                · have h := zit c19 h
                  refine lv_iload hx hb dX6_site_125 (lv_at hl 6 rfl) ?_
                  refine lv_istore (lv' := [(5, .int x4.1), (6, .int (if x4.1 ≤ o12.1 then x4.2.1 else x4.2.2.1)), (0, .ref a_m), (1, .int u1), (2, .int u2), (3, .int u3), (4, .int u4), (7, .int x4.2.2.1), (8, .int o12.1)]) hx hb dX6_site_127 hl (by decide) rfl (fun ls hl => ?_)
                  refine lv_iinc (v := x4.2.2.1 + (1 : Int32)) (lv' := [(7, .int (x4.2.2.1 + (1 : Int32))), (5, .int x4.1), (6, .int (if x4.1 ≤ o12.1 then x4.2.1 else x4.2.2.1)), (0, .ref a_m), (1, .int u1), (2, .int u2), (3, .int u3), (4, .int u4), (8, .int o12.1)]) hx hb dX6_site_129 hl (k := 7) rfl rfl (by decide) rfl (fun ls hl => ?_)
                  refine lv_goto (tgt := 47) hx hb dX6_site_132 (by decide) ?_
                  exact hC5 _ (zs h) H locs ls hP hD hS (lv_sub hl [3, 4, 5, 6, 7, 1, 2, 0] rfl)
                · have h := zif c19 h
                  refine lv_iload hx hb dX6_site_120 (lv_at hl 8 rfl) ?_
                  refine lv_goto (tgt := 127) hx hb dX6_site_122 (by decide) ?_
                  refine lv_istore (lv' := [(5, .int o12.1), (6, .int (if x4.1 ≤ o12.1 then x4.2.1 else x4.2.2.1)), (0, .ref a_m), (1, .int u1), (2, .int u2), (3, .int u3), (4, .int u4), (7, .int x4.2.2.1), (8, .int o12.1)]) hx hb dX6_site_127 hl (by decide) rfl (fun ls hl => ?_)
                  refine lv_iinc (v := x4.2.2.1 + (1 : Int32)) (lv' := [(7, .int (x4.2.2.1 + (1 : Int32))), (5, .int o12.1), (6, .int (if x4.1 ≤ o12.1 then x4.2.1 else x4.2.2.1)), (0, .ref a_m), (1, .int u1), (2, .int u2), (3, .int u3), (4, .int u4), (8, .int o12.1)]) hx hb dX6_site_129 hl (k := 7) rfl rfl (by decide) rfl (fun ls hl => ?_)
                  refine lv_goto (tgt := 47) hx hb dX6_site_132 (by decide) ?_
                  exact hC5 _ (zs h) H locs ls hP hD hS (lv_sub hl [3, 4, 5, 6, 7, 1, 2, 0] rfl)
            refine lv_icmp_ge (tgt := 102) hx hb dX6_site_94 (by decide) (fun c18 => ?_) (fun c18 => ?_)
            · refine lv_iload hx hb dX6_site_102 (lv_at hl 7 rfl) ?_
              exact hJ15 _ (if_pos c18).symm H locs ls hP hD hS (lv_sub hl [1, 2, 3, 4, 5, 6, 8, 0] rfl)
            · refine lv_iload hx hb dX6_site_97 (lv_at hl 8 rfl) ?_
              refine lv_goto (tgt := 104) hx hb dX6_site_99 (by decide) ?_
              exact hJ15 _ (if_neg c18).symm H locs ls hP hD hS (lv_sub hl [1, 2, 3, 4, 5, 6, 8, 0] rfl)
      · have h := zit c25 h
        refine lv_bipush (v := (-3)) hx hb dX6_site_33 (by decide) ?_
        have hr := (zs h)
        subst hr
        exact hret H locs ls 35 hP hS dX6_site_35
    · have h := zit c26 h
      refine lv_iconst (v := (-1)) hx hb dX6_site_20 (by decide) ?_
      have hr := (zs h)
      subst hr
      exact hret H locs ls 21 hP hS dX6_site_21
theorem iw_X6_hush_X6 : ∀ w ∈ wsX60, w ∈ wsX6_hush := fun _ h => List.mem_cons_of_mem _ (List.mem_append_right _ h)
set_option maxHeartbeats 4000000 in
set_option maxRecDepth 100000 in
theorem c_X6_hush (l : Launch) (G : va_G) (k : Nat → ClassId) (tL tM : Nat) (sK sV : Nat → Nat) (a_m : Nat) (a_m_state : Nat) (a_m_readPage : Nat) (a_m_tape : Nat) (a_m_cuts : Nat) (a_m_letters : Nat) (a_m_seen : Nat) (a_m_pointBy : Nat) (a_m_isKept : Nat) (a_m_lanes : Nat) (a_m_lengths : Nat) (a_m_sheetCells : Nat) (sz : Nat) (m_toldOnce : Int32) (m_taped : Int32) (m_fault : Int32) (m_broken : Int32) (m_brokenAt : Int32) (m_spot : Int32) (m_here : Int32) (m_token : Int32) (m_value : Int32) (m_silent : Int32) (m_greatest : Int32) (m_moves : Int32) (m_holders : Int32) (m_seenMany : Int32) (m_torn : Int32) (m_state : Nat → Int32) (u1 : Int32) (out : Int32 × Int32 × Int32 × Int32 × Int32 × (Nat → Int32)) (h : p_X6_hush u1 m_silent m_greatest m_moves m_holders m_state = some out) : zMi l yX6_hush wsX6_hush 7 156 G k tL tM sK sV [.ref a_m, .int u1] [(a_m, .inr (6, [.ref a_m_state, .ref a_m_readPage, .int m_toldOnce, .ref a_m_tape, .int m_taped, .int m_fault, .int m_broken, .int m_brokenAt, .int m_spot, .int m_here, .int m_token, .int m_value, .ref a_m_cuts, .ref a_m_letters, .int m_silent, .int m_greatest, .int m_moves, .int m_holders, .ref a_m_seen, .int m_seenMany, .ref a_m_pointBy, .ref a_m_isKept, .ref a_m_lanes, .ref a_m_lengths, .ref a_m_sheetCells, .int m_torn])), (a_m_state, .inl (k 0, 156, .inl m_state))] [(a_m, .inr (6, [.ref a_m_state, .ref a_m_readPage, .int m_toldOnce, .ref a_m_tape, .int m_taped, .int m_fault, .int m_broken, .int m_brokenAt, .int m_spot, .int m_here, .int m_token, .int m_value, .ref a_m_cuts, .ref a_m_letters, .int out.2.1, .int out.2.2.1, .int out.2.2.2.1, .int out.2.2.2.2.1, .ref a_m_seen, .int m_seenMany, .ref a_m_pointBy, .ref a_m_isKept, .ref a_m_lanes, .ref a_m_lengths, .ref a_m_sheetCells, .int m_torn])), (a_m_state, .inl (k 0, 156, .inl out.2.2.2.2.2))] out.1 sz := by
  refine z_meti (cc := cX6_hush) (maxL := 5) (by decide) rfl (Nat.le_of_ble_eq_true rfl) ?_
  intro p e s m below meth c A Q H locs ls hx hb hml hts hown hA hK hE hret hP hD hS hl
  have hown : s.vm.findClass RX6 = some m.cls := hown
  have hl : lv_has ls 5 [(0, .ref a_m), (1, .int u1)] := hl
  unfold p_X6_hush at h
  refine lv_iload_n hx hb dX6_hush_0 rfl (lv_at hl 1 rfl) ?_
  refine lv_i2l (v := u1.toInt64) hx hb dX6_hush_1 rfl ?_
  refine lv_lconst (v := 0) hx hb dX6_hush_2 (by decide) ?_
  refine lv_lconst (v := 1) hx hb dX6_hush_3 (by decide) ?_
  obtain ⟨o1, hv, h⟩ := zb h
  refine z_goi (w2 := [(a_m, .inr (6, [.ref a_m_state, .ref a_m_readPage, .int m_toldOnce, .ref a_m_tape, .int m_taped, .int m_fault, .int m_broken, .int m_brokenAt, .int m_spot, .int m_here, .int m_token, .int m_value, .ref a_m_cuts, .ref a_m_letters, .int m_silent, .int m_greatest, .int m_moves, .int m_holders, .ref a_m_seen, .int m_seenMany, .ref a_m_pointBy, .ref a_m_isKept, .ref a_m_lanes, .ref a_m_lengths, .ref a_m_sheetCells, .int m_torn])), (a_m_state, .inl (k 0, 156, .inl m_state))]) [] (va_runS (As := [.long u1.toInt64, .long (0 : Int64), .long (1 : Int64)]) (rest := []) ⟨hx, hb, hml, hown, hts⟩ (c_X6_in l G k tL tM sK sV H.size u1.toInt64 (0 : Int64) (1 : Int64) o1 hv) (va_cwS 3 hts gX6_hush_X6_in rfl rfl rfl (by decide +kernel) ⟨Nat.le_of_ble_eq_true rfl, Nat.le_of_ble_eq_true rfl⟩) (z_preS (wc := []) [] hK hE hA hP hD hS (by decide) rfl) rfl rfl hl.1 rfl (lv_room (Nat.le_of_ble_eq_true rfl)) dX6_hush_4 ⟨Nat.le_refl _, Nat.le_refl _⟩) hA hP hD hS rfl rfl rfl rfl (fun H locs hP hD hS => ?_)
  refine lv_if_ne (tgt := 12) hx hb dX6_hush_7 (by decide) (fun c19 => ?_) (fun c19 => ?_)
  · have h := zif c19 h
    refine lv_aload_n hx hb dX6_hush_12 rfl (lv_at hl 0 rfl) ?_
    refine lv_iconst (v := 0) hx hb dX6_hush_13 (by decide) ?_
    refine lv_bipush (v := 60) hx hb dX6_hush_14 (by decide) ?_
    obtain ⟨o2, hv, h⟩ := zb h
    refine z_gov (w2 := [(a_m, .inr (6, [.ref a_m_state, .ref a_m_readPage, .int m_toldOnce, .ref a_m_tape, .int m_taped, .int m_fault, .int m_broken, .int m_brokenAt, .int m_spot, .int m_here, .int m_token, .int m_value, .ref a_m_cuts, .ref a_m_letters, .int m_silent, .int o2.1, .int o2.2.1, .int o2.2.2.1, .ref a_m_seen, .int m_seenMany, .ref a_m_pointBy, .ref a_m_isKept, .ref a_m_lanes, .ref a_m_lengths, .ref a_m_sheetCells, .int m_torn])), (a_m_state, .inl (k 0, 156, .inl o2.2.2.2))]) [0, 1] (va_runV (As := [.int (0 : Int32), .int (60 : Int32)]) (rest := []) ⟨hx, hb, hml, hown, hts⟩ (c_X6_yearsGo l G k tL tM sK sV a_m a_m_state a_m_readPage a_m_tape a_m_cuts a_m_letters a_m_seen a_m_pointBy a_m_isKept a_m_lanes a_m_lengths a_m_sheetCells H.size m_toldOnce m_taped m_fault m_broken m_brokenAt m_spot m_here m_token m_value m_silent m_greatest m_moves m_holders m_seenMany m_torn m_state (0 : Int32) (60 : Int32) o2 hv) (cwV 2 hts gX6_hush_X6_yearsGo rfl rfl rfl (by decide +kernel) ⟨Nat.le_of_ble_eq_true rfl, Nat.le_of_ble_eq_true rfl⟩) (z_preV (wc := [(a_m, .inr (6, [.ref a_m_state, .ref a_m_readPage, .int m_toldOnce, .ref a_m_tape, .int m_taped, .int m_fault, .int m_broken, .int m_brokenAt, .int m_spot, .int m_here, .int m_token, .int m_value, .ref a_m_cuts, .ref a_m_letters, .int m_silent, .int m_greatest, .int m_moves, .int m_holders, .ref a_m_seen, .int m_seenMany, .ref a_m_pointBy, .ref a_m_isKept, .ref a_m_lanes, .ref a_m_lengths, .ref a_m_sheetCells, .int m_torn])), (a_m_state, .inl (k 0, 156, .inl m_state))]) [0, 1] 0 6 hK hE hA hP hD hS (by decide) rfl rfl rfl) rfl rfl hl.1 rfl (lv_room (Nat.le_of_ble_eq_true rfl)) dX6_hush_16 ⟨Nat.le_refl _, Nat.le_refl _⟩) hA hP hD hS rfl rfl rfl rfl (fun H locs hP hD hS => ?_)
    refine lv_aload_n hx hb dX6_hush_19 rfl (lv_at hl 0 rfl) ?_
    refine va_get (D := G) (ci := 6) (v := .int o2.1) (C := RX6) (T := TX6) (N := 26) hx hb hts iw_X6_hush_X6 hown hK hP 0 rfl rfl 15 (by decide) (hts (.fieldLink RX6 191 "SpireLeanModel" "greatest" "I") (List.mem_of_getElem? (i := 1) rfl)) (fun _ h9 => h9) rfl dX6_hush_20 ?_
    refine lv_istore_n (lv' := [(2, .int o2.1), (0, .ref a_m), (1, .int u1)]) hx hb dX6_hush_23 rfl hl (by decide) rfl (fun ls hl => ?_)
    refine lv_bipush (v := (-4)) hx hb dX6_hush_24 (by decide) ?_
    refine lv_istore_n (lv' := [(3, .int (-4 : Int32)), (2, .int o2.1), (0, .ref a_m), (1, .int u1)]) hx hb dX6_hush_26 rfl hl (by decide) rfl (fun ls hl => ?_)
    refine lv_iconst (v := 0) hx hb dX6_hush_27 (by decide) ?_
    refine lv_istore (lv' := [(4, .int (0 : Int32)), (3, .int (-4 : Int32)), (2, .int o2.1), (0, .ref a_m), (1, .int u1)]) hx hb dX6_hush_28 hl (by decide) rfl (fun ls hl => ?_)
    obtain ⟨e7, hv, h⟩ := zb h
    have hJ6 : ∀ (e7_ : Int32 × Int32 × Int32 × Int32 × Int32 × Int32 × (Nat → Int32)), e7_ = e7 → zW p l e (zR 7 156) s m ([.ref a_m, .int u1] : List Value).toArray below meth c Q 5 A G [(a_m, .inr (6, [.ref a_m_state, .ref a_m_readPage, .int m_toldOnce, .ref a_m_tape, .int m_taped, .int m_fault, .int m_broken, .int m_brokenAt, .int m_spot, .int m_here, .int m_token, .int m_value, .ref a_m_cuts, .ref a_m_letters, .int e7_.2.2.1, .int e7_.2.2.2.1, .int e7_.2.2.2.2.1, .int e7_.2.2.2.2.2.1, .ref a_m_seen, .int m_seenMany, .ref a_m_pointBy, .ref a_m_isKept, .ref a_m_lanes, .ref a_m_lengths, .ref a_m_sheetCells, .int m_torn])), (a_m_state, .inl (k 0, 156, .inl e7_.2.2.2.2.2.2))] [(1, .int u1), (2, .int e7_.1), (3, .int e7_.2.1)] 99 [] := by
      intro e7_ hz
      subst hz
      intro H locs ls hP hD hS hl
      refine lv_iload_n hx hb dX6_hush_99 rfl (lv_at hl 2 rfl) ?_
      refine lv_bipush (v := (-4)) hx hb dX6_hush_100 (by decide) ?_
      refine lv_icmp_eq (tgt := 109) hx hb dX6_hush_102 (by decide) (fun c18 => ?_) (fun c18 => ?_)
      · have h := zit c18 h
        refine lv_iload_n hx hb dX6_hush_109 rfl (lv_at hl 2 rfl) ?_
        refine lv_goto (tgt := 114) hx hb dX6_hush_110 (by decide) ?_
        have hr := (zs h)
        subst hr
        exact hret H locs ls 114 hP hS dX6_hush_114
      · have h := zif c18 h
        refine lv_iload_n hx hb dX6_hush_105 rfl (lv_at hl 0 rfl) ?_
        refine lv_if_ne (tgt := 113) hx hb dX6_hush_106 (by decide) (fun c17 => ?_) (fun c17 => ?_)
        · have h := zif c17 h
          refine lv_iload_n hx hb dX6_hush_113 rfl (lv_at hl 1 rfl) ?_
          have hr := (zs h)
          subst hr
          exact hret H locs ls 114 hP hS dX6_hush_114
        · have h := zit c17 h
          refine lv_iload_n hx hb dX6_hush_109 rfl (lv_at hl 2 rfl) ?_
          refine lv_goto (tgt := 114) hx hb dX6_hush_110 (by decide) ?_
          have hr := (zs h)
          subst hr
          exact hret H locs ls 114 hP hS dX6_hush_114
    refine z_lpW (Wh := fun (x3 : Int32 × Int32 × Int32 × Int32 × Int32 × Int32 × Int32 × (Nat → Int32)) => zW p l e (zR 7 156) s m ([.ref a_m, .int u1] : List Value).toArray below meth c Q 5 A G [(a_m, .inr (6, [.ref a_m_state, .ref a_m_readPage, .int m_toldOnce, .ref a_m_tape, .int m_taped, .int m_fault, .int m_broken, .int m_brokenAt, .int m_spot, .int m_here, .int m_token, .int m_value, .ref a_m_cuts, .ref a_m_letters, .int x3.2.2.2.1, .int x3.2.2.2.2.1, .int x3.2.2.2.2.2.1, .int x3.2.2.2.2.2.2.1, .ref a_m_seen, .int m_seenMany, .ref a_m_pointBy, .ref a_m_isKept, .ref a_m_lanes, .ref a_m_lengths, .ref a_m_sheetCells, .int m_torn])), (a_m_state, .inl (k 0, 156, .inl x3.2.2.2.2.2.2.2))] [(0, .ref a_m), (1, .int u1), (2, .int x3.1), (3, .int x3.2.1), (4, .int x3.2.2.1)] 30 []) ?_ 1000 _ hv H locs ls hP hD hS (lv_sub hl [3, 4, 2, 1, 0] rfl)
    clear h
    intro x3 o h hC4 hX5 H locs ls hP hD hS hl
    unfold p_X6_hush_b30 at h
    refine lv_iload hx hb dX6_hush_30 (lv_at hl 4 rfl) ?_
    refine lv_aload_n hx hb dX6_hush_32 rfl (lv_at hl 0 rfl) ?_
    refine va_get (D := G) (ci := 6) (v := .ref a_m_state) (C := RX6) (T := TX6) (N := 26) hx hb hts iw_X6_hush_X6 hown hK hP 0 rfl rfl 0 (by decide) (hts (.fieldLink RX6 7 "SpireLeanModel" "state" "[I") (List.mem_of_getElem? (i := 2) rfl)) (fun _ h9 => h9) rfl dX6_hush_33 ?_
    refine lv_bipush (v := 20) hx hb dX6_hush_36 (by decide) ?_
    obtain ⟨v9, hv, h⟩ := zb h
    refine z_iald hx hb hK hP 1 0 rfl rfl hv dX6_hush_38 ?_
    refine lv_icmp_ge (tgt := 99) hx hb dX6_hush_39 (by decide) (fun c16 => ?_) (fun c16 => ?_)
    · have h := zit c16 h
      exact hJ6 _ (hX5 _ (zs h)) H locs ls hP hD hS (lv_sub hl [1, 2, 3] rfl)
    · have h := zif c16 h
      refine lv_aload_n hx hb dX6_hush_42 rfl (lv_at hl 0 rfl) ?_
      refine lv_iload hx hb dX6_hush_43 (lv_at hl 4 rfl) ?_
      refine va_put (D := G) (ci := 6) (v := .int x3.2.2.1) (ty := .int) (C := RX6) (T := TX6) (N := 26) hx hb hts iw_X6_hush_X6 tyX6 tyX6_ok nmX6 hown hK hP hD hS 0 rfl rfl 14 (by decide) (hts (.fieldLink RX6 25 "SpireLeanModel" "silent" "I") (List.mem_of_getElem? (i := 3) rfl)) (fun _ h9 => h9) rfl (tyX6_ok 14 (by decide)) rfl rfl (Nat.le_of_ble_eq_true rfl) dX6_hush_45 (fun H locs hP hD hS => ?_)
      have hP : va_P G vwCl [(a_m, .inr (6, [.ref a_m_state, .ref a_m_readPage, .int m_toldOnce, .ref a_m_tape, .int m_taped, .int m_fault, .int m_broken, .int m_brokenAt, .int m_spot, .int m_here, .int m_token, .int m_value, .ref a_m_cuts, .ref a_m_letters, .int x3.2.2.1, .int x3.2.2.2.2.1, .int x3.2.2.2.2.2.1, .int x3.2.2.2.2.2.2.1, .ref a_m_seen, .int m_seenMany, .ref a_m_pointBy, .ref a_m_isKept, .ref a_m_lanes, .ref a_m_lengths, .ref a_m_sheetCells, .int m_torn])), (a_m_state, .inl (k 0, 156, .inl x3.2.2.2.2.2.2.2))] H := hP
      have hD : va_D A [(a_m, .inr (6, [.ref a_m_state, .ref a_m_readPage, .int m_toldOnce, .ref a_m_tape, .int m_taped, .int m_fault, .int m_broken, .int m_brokenAt, .int m_spot, .int m_here, .int m_token, .int m_value, .ref a_m_cuts, .ref a_m_letters, .int x3.2.2.1, .int x3.2.2.2.2.1, .int x3.2.2.2.2.2.1, .int x3.2.2.2.2.2.2.1, .ref a_m_seen, .int m_seenMany, .ref a_m_pointBy, .ref a_m_isKept, .ref a_m_lanes, .ref a_m_lengths, .ref a_m_sheetCells, .int m_torn])), (a_m_state, .inl (k 0, 156, .inl x3.2.2.2.2.2.2.2))] := hD
      refine lv_aload_n hx hb dX6_hush_48 rfl (lv_at hl 0 rfl) ?_
      refine lv_iconst (v := 0) hx hb dX6_hush_49 (by decide) ?_
      refine lv_bipush (v := 60) hx hb dX6_hush_50 (by decide) ?_
      obtain ⟨o10, hv, h⟩ := zb h
      refine z_gov (w2 := [(a_m, .inr (6, [.ref a_m_state, .ref a_m_readPage, .int m_toldOnce, .ref a_m_tape, .int m_taped, .int m_fault, .int m_broken, .int m_brokenAt, .int m_spot, .int m_here, .int m_token, .int m_value, .ref a_m_cuts, .ref a_m_letters, .int x3.2.2.1, .int o10.1, .int o10.2.1, .int o10.2.2.1, .ref a_m_seen, .int m_seenMany, .ref a_m_pointBy, .ref a_m_isKept, .ref a_m_lanes, .ref a_m_lengths, .ref a_m_sheetCells, .int m_torn])), (a_m_state, .inl (k 0, 156, .inl o10.2.2.2))]) [0, 1] (va_runV (As := [.int (0 : Int32), .int (60 : Int32)]) (rest := []) ⟨hx, hb, hml, hown, hts⟩ (c_X6_yearsGo l G k tL tM sK sV a_m a_m_state a_m_readPage a_m_tape a_m_cuts a_m_letters a_m_seen a_m_pointBy a_m_isKept a_m_lanes a_m_lengths a_m_sheetCells H.size m_toldOnce m_taped m_fault m_broken m_brokenAt m_spot m_here m_token m_value x3.2.2.1 x3.2.2.2.2.1 x3.2.2.2.2.2.1 x3.2.2.2.2.2.2.1 m_seenMany m_torn x3.2.2.2.2.2.2.2 (0 : Int32) (60 : Int32) o10 hv) (cwV 2 hts gX6_hush_X6_yearsGo rfl rfl rfl (by decide +kernel) ⟨Nat.le_of_ble_eq_true rfl, Nat.le_of_ble_eq_true rfl⟩) (z_preV (wc := [(a_m, .inr (6, [.ref a_m_state, .ref a_m_readPage, .int m_toldOnce, .ref a_m_tape, .int m_taped, .int m_fault, .int m_broken, .int m_brokenAt, .int m_spot, .int m_here, .int m_token, .int m_value, .ref a_m_cuts, .ref a_m_letters, .int x3.2.2.1, .int x3.2.2.2.2.1, .int x3.2.2.2.2.2.1, .int x3.2.2.2.2.2.2.1, .ref a_m_seen, .int m_seenMany, .ref a_m_pointBy, .ref a_m_isKept, .ref a_m_lanes, .ref a_m_lengths, .ref a_m_sheetCells, .int m_torn])), (a_m_state, .inl (k 0, 156, .inl x3.2.2.2.2.2.2.2))]) [0, 1] 0 6 hK hE hA hP hD hS (by decide) rfl rfl rfl) rfl rfl hl.1 rfl (lv_room (Nat.le_of_ble_eq_true rfl)) dX6_hush_52 ⟨Nat.le_refl _, Nat.le_refl _⟩) hA hP hD hS rfl rfl rfl rfl (fun H locs hP hD hS => ?_)
      refine lv_aload_n hx hb dX6_hush_55 rfl (lv_at hl 0 rfl) ?_
      refine lv_bipush (v := (-4)) hx hb dX6_hush_56 (by decide) ?_
      refine va_put (D := G) (ci := 6) (v := .int (-4 : Int32)) (ty := .int) (C := RX6) (T := TX6) (N := 26) hx hb hts iw_X6_hush_X6 tyX6 tyX6_ok nmX6 hown hK hP hD hS 0 rfl rfl 14 (by decide) (hts (.fieldLink RX6 25 "SpireLeanModel" "silent" "I") (List.mem_of_getElem? (i := 3) rfl)) (fun _ h9 => h9) rfl (tyX6_ok 14 (by decide)) rfl rfl (Nat.le_of_ble_eq_true rfl) dX6_hush_58 (fun H locs hP hD hS => ?_)
      have hP : va_P G vwCl [(a_m, .inr (6, [.ref a_m_state, .ref a_m_readPage, .int m_toldOnce, .ref a_m_tape, .int m_taped, .int m_fault, .int m_broken, .int m_brokenAt, .int m_spot, .int m_here, .int m_token, .int m_value, .ref a_m_cuts, .ref a_m_letters, .int (-4 : Int32), .int o10.1, .int o10.2.1, .int o10.2.2.1, .ref a_m_seen, .int m_seenMany, .ref a_m_pointBy, .ref a_m_isKept, .ref a_m_lanes, .ref a_m_lengths, .ref a_m_sheetCells, .int m_torn])), (a_m_state, .inl (k 0, 156, .inl o10.2.2.2))] H := hP
      have hD : va_D A [(a_m, .inr (6, [.ref a_m_state, .ref a_m_readPage, .int m_toldOnce, .ref a_m_tape, .int m_taped, .int m_fault, .int m_broken, .int m_brokenAt, .int m_spot, .int m_here, .int m_token, .int m_value, .ref a_m_cuts, .ref a_m_letters, .int (-4 : Int32), .int o10.1, .int o10.2.1, .int o10.2.2.1, .ref a_m_seen, .int m_seenMany, .ref a_m_pointBy, .ref a_m_isKept, .ref a_m_lanes, .ref a_m_lengths, .ref a_m_sheetCells, .int m_torn])), (a_m_state, .inl (k 0, 156, .inl o10.2.2.2))] := hD
      refine lv_aload_n hx hb dX6_hush_61 rfl (lv_at hl 0 rfl) ?_
      refine va_get (D := G) (ci := 6) (v := .int o10.1) (C := RX6) (T := TX6) (N := 26) hx hb hts iw_X6_hush_X6 hown hK hP 0 rfl rfl 15 (by decide) (hts (.fieldLink RX6 191 "SpireLeanModel" "greatest" "I") (List.mem_of_getElem? (i := 1) rfl)) (fun _ h9 => h9) rfl dX6_hush_62 ?_
      refine lv_iload_n hx hb dX6_hush_65 rfl (lv_at hl 2 rfl) ?_
      have hJ11 : ∀ (y12 : Int32), y12 = (if x3.1 ≤ o10.1 then x3.2.1 else x3.2.2.1) → zW p l e (zR 7 156) s m ([.ref a_m, .int u1] : List Value).toArray below meth c Q 5 A G [(a_m, .inr (6, [.ref a_m_state, .ref a_m_readPage, .int m_toldOnce, .ref a_m_tape, .int m_taped, .int m_fault, .int m_broken, .int m_brokenAt, .int m_spot, .int m_here, .int m_token, .int m_value, .ref a_m_cuts, .ref a_m_letters, .int (-4 : Int32), .int o10.1, .int o10.2.1, .int o10.2.2.1, .ref a_m_seen, .int m_seenMany, .ref a_m_pointBy, .ref a_m_isKept, .ref a_m_lanes, .ref a_m_lengths, .ref a_m_sheetCells, .int m_torn])), (a_m_state, .inl (k 0, 156, .inl o10.2.2.2))] [(0, .ref a_m), (1, .int u1), (2, .int x3.1), (4, .int x3.2.2.1)] 75 [.int y12] := by
        intro y12 q13
        subst q13
        intro H locs ls hP hD hS hl
        refine lv_istore_n (lv' := [(3, .int (if x3.1 ≤ o10.1 then x3.2.1 else x3.2.2.1)), (0, .ref a_m), (1, .int u1), (2, .int x3.1), (4, .int x3.2.2.1)]) hx hb dX6_hush_75 rfl hl (by decide) rfl (fun ls hl => ?_)
        refine lv_aload_n hx hb dX6_hush_76 rfl (lv_at hl 1 rfl) ?_
        refine va_get (D := G) (ci := 6) (v := .int o10.1) (C := RX6) (T := TX6) (N := 26) hx hb hts iw_X6_hush_X6 hown hK hP 0 rfl rfl 15 (by decide) (hts (.fieldLink RX6 191 "SpireLeanModel" "greatest" "I") (List.mem_of_getElem? (i := 1) rfl)) (fun _ h9 => h9) rfl dX6_hush_77 ?_
        refine lv_iload_n hx hb dX6_hush_80 rfl (lv_at hl 3 rfl) ?_
        refine lv_icmp_ge (tgt := 91) hx hb dX6_hush_81 (by decide) (fun c15 => ?_) (fun c15 => ?_)
        · have h := zit c15 h
          refine lv_iload_n hx hb dX6_hush_91 rfl (lv_at hl 3 rfl) ?_
          refine lv_istore_n (lv' := [(2, .int x3.1), (3, .int (if x3.1 ≤ o10.1 then x3.2.1 else x3.2.2.1)), (0, .ref a_m), (1, .int u1), (4, .int x3.2.2.1)]) hx hb dX6_hush_92 rfl hl (by decide) rfl (fun ls hl => ?_)
          refine lv_iinc (v := x3.2.2.1 + (1 : Int32)) (lv' := [(4, .int (x3.2.2.1 + (1 : Int32))), (2, .int x3.1), (3, .int (if x3.1 ≤ o10.1 then x3.2.1 else x3.2.2.1)), (0, .ref a_m), (1, .int u1)]) hx hb dX6_hush_93 hl (k := 4) rfl rfl (by decide) rfl (fun ls hl => ?_)
          refine lv_goto (tgt := 30) hx hb dX6_hush_96 (by decide) ?_
          exact hC4 _ (zs h) H locs ls hP hD hS (lv_sub hl [3, 4, 1, 2, 0] rfl)
        · have h := zif c15 h
          refine lv_aload_n hx hb dX6_hush_84 rfl (lv_at hl 1 rfl) ?_
          refine va_get (D := G) (ci := 6) (v := .int o10.1) (C := RX6) (T := TX6) (N := 26) hx hb hts iw_X6_hush_X6 hown hK hP 0 rfl rfl 15 (by decide) (hts (.fieldLink RX6 191 "SpireLeanModel" "greatest" "I") (List.mem_of_getElem? (i := 1) rfl)) (fun _ h9 => h9) rfl dX6_hush_85 ?_
          refine lv_goto (tgt := 92) hx hb dX6_hush_88 (by decide) ?_
          refine lv_istore_n (lv' := [(2, .int o10.1), (3, .int (if x3.1 ≤ o10.1 then x3.2.1 else x3.2.2.1)), (0, .ref a_m), (1, .int u1), (4, .int x3.2.2.1)]) hx hb dX6_hush_92 rfl hl (by decide) rfl (fun ls hl => ?_)
          refine lv_iinc (v := x3.2.2.1 + (1 : Int32)) (lv' := [(4, .int (x3.2.2.1 + (1 : Int32))), (2, .int o10.1), (3, .int (if x3.1 ≤ o10.1 then x3.2.1 else x3.2.2.1)), (0, .ref a_m), (1, .int u1)]) hx hb dX6_hush_93 hl (k := 4) rfl rfl (by decide) rfl (fun ls hl => ?_)
          refine lv_goto (tgt := 30) hx hb dX6_hush_96 (by decide) ?_
          exact hC4 _ (zs h) H locs ls hP hD hS (lv_sub hl [3, 4, 1, 2, 0] rfl)
      refine lv_icmp_ge (tgt := 74) hx hb dX6_hush_66 (by decide) (fun c14 => ?_) (fun c14 => ?_)
      · refine lv_iload_n hx hb dX6_hush_74 rfl (lv_at hl 3 rfl) ?_
        exact hJ11 _ (if_pos c14).symm H locs ls hP hD hS (lv_sub hl [0, 1, 2, 4] rfl)
      · refine lv_iload hx hb dX6_hush_69 (lv_at hl 4 rfl) ?_
        refine lv_goto (tgt := 75) hx hb dX6_hush_71 (by decide) ?_
        exact hJ11 _ (if_neg c14).symm H locs ls hP hD hS (lv_sub hl [0, 1, 2, 4] rfl)
  · have h := zit c19 h
    refine lv_iconst (v := (-1)) hx hb dX6_hush_10 (by decide) ?_
    have hr := (zs h)
    subst hr
    exact hret H locs ls 11 hP hS dX6_hush_11
theorem iw_X6_swap_X6 : ∀ w ∈ wsX60, w ∈ wsX6_swap := fun _ h => List.mem_cons_of_mem _ (List.mem_append_right _ h)
set_option maxHeartbeats 4000000 in
set_option maxRecDepth 100000 in
theorem c_X6_swap (l : Launch) (G : va_G) (k : Nat → ClassId) (tL tM : Nat) (sK sV : Nat → Nat) (a_m : Nat) (a_m_state : Nat) (a_m_readPage : Nat) (a_m_tape : Nat) (a_m_cuts : Nat) (a_m_letters : Nat) (a_m_seen : Nat) (a_m_pointBy : Nat) (a_m_isKept : Nat) (a_m_lanes : Nat) (a_m_lengths : Nat) (a_m_sheetCells : Nat) (sz : Nat) (m_toldOnce : Int32) (m_taped : Int32) (m_fault : Int32) (m_broken : Int32) (m_brokenAt : Int32) (m_spot : Int32) (m_here : Int32) (m_token : Int32) (m_value : Int32) (m_silent : Int32) (m_greatest : Int32) (m_moves : Int32) (m_holders : Int32) (m_seenMany : Int32) (m_torn : Int32) (m_state : Nat → Int32) (u1 : Int32) (out : Int32 × Int32 × Int32 × Int32 × (Nat → Int32)) (h : p_X6_swap u1 m_silent m_greatest m_moves m_holders m_state = some out) : zMi l yX6_swap wsX6_swap 7 156 G k tL tM sK sV [.ref a_m, .int u1] [(a_m, .inr (6, [.ref a_m_state, .ref a_m_readPage, .int m_toldOnce, .ref a_m_tape, .int m_taped, .int m_fault, .int m_broken, .int m_brokenAt, .int m_spot, .int m_here, .int m_token, .int m_value, .ref a_m_cuts, .ref a_m_letters, .int m_silent, .int m_greatest, .int m_moves, .int m_holders, .ref a_m_seen, .int m_seenMany, .ref a_m_pointBy, .ref a_m_isKept, .ref a_m_lanes, .ref a_m_lengths, .ref a_m_sheetCells, .int m_torn])), (a_m_state, .inl (k 0, 156, .inl m_state))] [(a_m, .inr (6, [.ref a_m_state, .ref a_m_readPage, .int m_toldOnce, .ref a_m_tape, .int m_taped, .int m_fault, .int m_broken, .int m_brokenAt, .int m_spot, .int m_here, .int m_token, .int m_value, .ref a_m_cuts, .ref a_m_letters, .int m_silent, .int out.2.1, .int out.2.2.1, .int out.2.2.2.1, .ref a_m_seen, .int m_seenMany, .ref a_m_pointBy, .ref a_m_isKept, .ref a_m_lanes, .ref a_m_lengths, .ref a_m_sheetCells, .int m_torn])), (a_m_state, .inl (k 0, 156, .inl out.2.2.2.2))] out.1 sz := by
  refine z_meti (cc := cX6_swap) (maxL := 6) (by decide) rfl (Nat.le_of_ble_eq_true rfl) ?_
  intro p e s m below meth c A Q H locs ls hx hb hml hts hown hA hK hE hret hP hD hS hl
  have hown : s.vm.findClass RX6 = some m.cls := hown
  have hl : lv_has ls 6 [(0, .ref a_m), (1, .int u1)] := hl
  unfold p_X6_swap at h
  refine lv_iload_n hx hb dX6_swap_0 rfl (lv_at hl 1 rfl) ?_
  refine lv_i2l (v := u1.toInt64) hx hb dX6_swap_1 rfl ?_
  refine lv_lconst (v := 0) hx hb dX6_swap_2 (by decide) ?_
  refine lv_lconst (v := 1) hx hb dX6_swap_3 (by decide) ?_
  obtain ⟨o1, hv, h⟩ := zb h
  refine z_goi (w2 := [(a_m, .inr (6, [.ref a_m_state, .ref a_m_readPage, .int m_toldOnce, .ref a_m_tape, .int m_taped, .int m_fault, .int m_broken, .int m_brokenAt, .int m_spot, .int m_here, .int m_token, .int m_value, .ref a_m_cuts, .ref a_m_letters, .int m_silent, .int m_greatest, .int m_moves, .int m_holders, .ref a_m_seen, .int m_seenMany, .ref a_m_pointBy, .ref a_m_isKept, .ref a_m_lanes, .ref a_m_lengths, .ref a_m_sheetCells, .int m_torn])), (a_m_state, .inl (k 0, 156, .inl m_state))]) [] (va_runS (As := [.long u1.toInt64, .long (0 : Int64), .long (1 : Int64)]) (rest := []) ⟨hx, hb, hml, hown, hts⟩ (c_X6_in l G k tL tM sK sV H.size u1.toInt64 (0 : Int64) (1 : Int64) o1 hv) (va_cwS 3 hts gX6_swap_X6_in rfl rfl rfl (by decide +kernel) ⟨Nat.le_of_ble_eq_true rfl, Nat.le_of_ble_eq_true rfl⟩) (z_preS (wc := []) [] hK hE hA hP hD hS (by decide) rfl) rfl rfl hl.1 rfl (lv_room (Nat.le_of_ble_eq_true rfl)) dX6_swap_4 ⟨Nat.le_refl _, Nat.le_refl _⟩) hA hP hD hS rfl rfl rfl rfl (fun H locs hP hD hS => ?_)
  refine lv_if_ne (tgt := 12) hx hb dX6_swap_7 (by decide) (fun c32 => ?_) (fun c32 => ?_)
  · have h := zif c32 h
    refine lv_aload_n hx hb dX6_swap_12 rfl (lv_at hl 0 rfl) ?_
    refine lv_iconst (v := 0) hx hb dX6_swap_13 (by decide) ?_
    refine lv_bipush (v := 60) hx hb dX6_swap_14 (by decide) ?_
    obtain ⟨o2, hv, h⟩ := zb h
    refine z_gov (w2 := [(a_m, .inr (6, [.ref a_m_state, .ref a_m_readPage, .int m_toldOnce, .ref a_m_tape, .int m_taped, .int m_fault, .int m_broken, .int m_brokenAt, .int m_spot, .int m_here, .int m_token, .int m_value, .ref a_m_cuts, .ref a_m_letters, .int m_silent, .int o2.1, .int o2.2.1, .int o2.2.2.1, .ref a_m_seen, .int m_seenMany, .ref a_m_pointBy, .ref a_m_isKept, .ref a_m_lanes, .ref a_m_lengths, .ref a_m_sheetCells, .int m_torn])), (a_m_state, .inl (k 0, 156, .inl o2.2.2.2))]) [0, 1] (va_runV (As := [.int (0 : Int32), .int (60 : Int32)]) (rest := []) ⟨hx, hb, hml, hown, hts⟩ (c_X6_yearsGo l G k tL tM sK sV a_m a_m_state a_m_readPage a_m_tape a_m_cuts a_m_letters a_m_seen a_m_pointBy a_m_isKept a_m_lanes a_m_lengths a_m_sheetCells H.size m_toldOnce m_taped m_fault m_broken m_brokenAt m_spot m_here m_token m_value m_silent m_greatest m_moves m_holders m_seenMany m_torn m_state (0 : Int32) (60 : Int32) o2 hv) (cwV 2 hts gX6_swap_X6_yearsGo rfl rfl rfl (by decide +kernel) ⟨Nat.le_of_ble_eq_true rfl, Nat.le_of_ble_eq_true rfl⟩) (z_preV (wc := [(a_m, .inr (6, [.ref a_m_state, .ref a_m_readPage, .int m_toldOnce, .ref a_m_tape, .int m_taped, .int m_fault, .int m_broken, .int m_brokenAt, .int m_spot, .int m_here, .int m_token, .int m_value, .ref a_m_cuts, .ref a_m_letters, .int m_silent, .int m_greatest, .int m_moves, .int m_holders, .ref a_m_seen, .int m_seenMany, .ref a_m_pointBy, .ref a_m_isKept, .ref a_m_lanes, .ref a_m_lengths, .ref a_m_sheetCells, .int m_torn])), (a_m_state, .inl (k 0, 156, .inl m_state))]) [0, 1] 0 6 hK hE hA hP hD hS (by decide) rfl rfl rfl) rfl rfl hl.1 rfl (lv_room (Nat.le_of_ble_eq_true rfl)) dX6_swap_16 ⟨Nat.le_refl _, Nat.le_refl _⟩) hA hP hD hS rfl rfl rfl rfl (fun H locs hP hD hS => ?_)
    refine lv_aload_n hx hb dX6_swap_19 rfl (lv_at hl 0 rfl) ?_
    refine va_get (D := G) (ci := 6) (v := .int o2.1) (C := RX6) (T := TX6) (N := 26) hx hb hts iw_X6_swap_X6 hown hK hP 0 rfl rfl 15 (by decide) (hts (.fieldLink RX6 191 "SpireLeanModel" "greatest" "I") (List.mem_of_getElem? (i := 1) rfl)) (fun _ h9 => h9) rfl dX6_swap_20 ?_
    refine lv_istore_n (lv' := [(2, .int o2.1), (0, .ref a_m), (1, .int u1)]) hx hb dX6_swap_23 rfl hl (by decide) rfl (fun ls hl => ?_)
    refine lv_bipush (v := (-4)) hx hb dX6_swap_24 (by decide) ?_
    refine lv_istore_n (lv' := [(3, .int (-4 : Int32)), (2, .int o2.1), (0, .ref a_m), (1, .int u1)]) hx hb dX6_swap_26 rfl hl (by decide) rfl (fun ls hl => ?_)
    refine lv_iconst (v := 0) hx hb dX6_swap_27 (by decide) ?_
    refine lv_istore (lv' := [(4, .int (0 : Int32)), (3, .int (-4 : Int32)), (2, .int o2.1), (0, .ref a_m), (1, .int u1)]) hx hb dX6_swap_28 hl (by decide) rfl (fun ls hl => ?_)
    obtain ⟨e7, hv, h⟩ := zb h
    have hJ6 : ∀ (e7_ : Int32 × Int32 × Int32 × Int32 × Int32 × (Nat → Int32)), e7_ = e7 → zW p l e (zR 7 156) s m ([.ref a_m, .int u1] : List Value).toArray below meth c Q 6 A G [(a_m, .inr (6, [.ref a_m_state, .ref a_m_readPage, .int m_toldOnce, .ref a_m_tape, .int m_taped, .int m_fault, .int m_broken, .int m_brokenAt, .int m_spot, .int m_here, .int m_token, .int m_value, .ref a_m_cuts, .ref a_m_letters, .int m_silent, .int e7_.2.2.1, .int e7_.2.2.2.1, .int e7_.2.2.2.2.1, .ref a_m_seen, .int m_seenMany, .ref a_m_pointBy, .ref a_m_isKept, .ref a_m_lanes, .ref a_m_lengths, .ref a_m_sheetCells, .int m_torn])), (a_m_state, .inl (k 0, 156, .inl e7_.2.2.2.2.2))] [(1, .int u1), (2, .int e7_.1), (3, .int e7_.2.1)] 169 [] := by
      intro e7_ hz
      subst hz
      intro H locs ls hP hD hS hl
      refine lv_iload_n hx hb dX6_swap_169 rfl (lv_at hl 2 rfl) ?_
      refine lv_bipush (v := (-4)) hx hb dX6_swap_170 (by decide) ?_
      refine lv_icmp_eq (tgt := 179) hx hb dX6_swap_172 (by decide) (fun c31 => ?_) (fun c31 => ?_)
      · have h := zit c31 h
        refine lv_iload_n hx hb dX6_swap_179 rfl (lv_at hl 2 rfl) ?_
        refine lv_goto (tgt := 184) hx hb dX6_swap_180 (by decide) ?_
        have hr := (zs h)
        subst hr
        exact hret H locs ls 184 hP hS dX6_swap_184
      · have h := zif c31 h
        refine lv_iload_n hx hb dX6_swap_175 rfl (lv_at hl 0 rfl) ?_
        refine lv_if_ne (tgt := 183) hx hb dX6_swap_176 (by decide) (fun c30 => ?_) (fun c30 => ?_)
        · have h := zif c30 h
          refine lv_iload_n hx hb dX6_swap_183 rfl (lv_at hl 1 rfl) ?_
          have hr := (zs h)
          subst hr
          exact hret H locs ls 184 hP hS dX6_swap_184
        · have h := zit c30 h
          refine lv_iload_n hx hb dX6_swap_179 rfl (lv_at hl 2 rfl) ?_
          refine lv_goto (tgt := 184) hx hb dX6_swap_180 (by decide) ?_
          have hr := (zs h)
          subst hr
          exact hret H locs ls 184 hP hS dX6_swap_184
    refine z_lpW (Wh := fun (x3 : Int32 × Int32 × Int32 × Int32 × Int32 × Int32 × (Nat → Int32)) => zW p l e (zR 7 156) s m ([.ref a_m, .int u1] : List Value).toArray below meth c Q 6 A G [(a_m, .inr (6, [.ref a_m_state, .ref a_m_readPage, .int m_toldOnce, .ref a_m_tape, .int m_taped, .int m_fault, .int m_broken, .int m_brokenAt, .int m_spot, .int m_here, .int m_token, .int m_value, .ref a_m_cuts, .ref a_m_letters, .int m_silent, .int x3.2.2.2.1, .int x3.2.2.2.2.1, .int x3.2.2.2.2.2.1, .ref a_m_seen, .int m_seenMany, .ref a_m_pointBy, .ref a_m_isKept, .ref a_m_lanes, .ref a_m_lengths, .ref a_m_sheetCells, .int m_torn])), (a_m_state, .inl (k 0, 156, .inl x3.2.2.2.2.2.2))] [(0, .ref a_m), (1, .int u1), (2, .int x3.1), (3, .int x3.2.1), (4, .int x3.2.2.1)] 30 []) ?_ 1000 _ hv H locs ls hP hD hS (lv_sub hl [3, 4, 2, 1, 0] rfl)
    clear h
    intro x3 o h hC4 hX5 H locs ls hP hD hS hl
    unfold p_X6_swap_b30 at h
    refine lv_iload hx hb dX6_swap_30 (lv_at hl 4 rfl) ?_
    refine lv_aload_n hx hb dX6_swap_32 rfl (lv_at hl 0 rfl) ?_
    refine va_get (D := G) (ci := 6) (v := .ref a_m_state) (C := RX6) (T := TX6) (N := 26) hx hb hts iw_X6_swap_X6 hown hK hP 0 rfl rfl 0 (by decide) (hts (.fieldLink RX6 7 "SpireLeanModel" "state" "[I") (List.mem_of_getElem? (i := 2) rfl)) (fun _ h9 => h9) rfl dX6_swap_33 ?_
    refine lv_bipush (v := 20) hx hb dX6_swap_36 (by decide) ?_
    obtain ⟨v9, hv, h⟩ := zb h
    refine z_iald hx hb hK hP 1 0 rfl rfl hv dX6_swap_38 ?_
    refine lv_icmp_ge (tgt := 169) hx hb dX6_swap_39 (by decide) (fun c29 => ?_) (fun c29 => ?_)
    · have h := zit c29 h
      exact hJ6 _ (hX5 _ (zs h)) H locs ls hP hD hS (lv_sub hl [1, 2, 3] rfl)
    · have h := zif c29 h
      refine lv_iload hx hb dX6_swap_42 (lv_at hl 4 rfl) ?_
      refine lv_iconst (v := 1) hx hb dX6_swap_44 (by decide) ?_
      refine lv_iadd hx hb dX6_swap_45 ?_
      refine lv_istore (lv' := [(5, .int (x3.2.2.1 + (1 : Int32))), (0, .ref a_m), (1, .int u1), (2, .int x3.1), (3, .int x3.2.1), (4, .int x3.2.2.1)]) hx hb dX6_swap_46 hl (by decide) rfl (fun ls hl => ?_)
      obtain ⟨e14, hv, h⟩ := zb h
      have hJ13 : ∀ (e14_ : Int32 × Int32 × Int32 × Int32 × Int32 × (Nat → Int32)), e14_ = e14 → zW p l e (zR 7 156) s m ([.ref a_m, .int u1] : List Value).toArray below meth c Q 6 A G [(a_m, .inr (6, [.ref a_m_state, .ref a_m_readPage, .int m_toldOnce, .ref a_m_tape, .int m_taped, .int m_fault, .int m_broken, .int m_brokenAt, .int m_spot, .int m_here, .int m_token, .int m_value, .ref a_m_cuts, .ref a_m_letters, .int m_silent, .int e14_.2.2.1, .int e14_.2.2.2.1, .int e14_.2.2.2.2.1, .ref a_m_seen, .int m_seenMany, .ref a_m_pointBy, .ref a_m_isKept, .ref a_m_lanes, .ref a_m_lengths, .ref a_m_sheetCells, .int m_torn])), (a_m_state, .inl (k 0, 156, .inl e14_.2.2.2.2.2))] [(0, .ref a_m), (1, .int u1), (2, .int e14_.1), (3, .int e14_.2.1), (4, .int x3.2.2.1)] 163 [] := by
        intro e14_ hz
        subst hz
        intro H locs ls hP hD hS hl
        refine lv_iinc (v := x3.2.2.1 + (1 : Int32)) (lv' := [(4, .int (x3.2.2.1 + (1 : Int32))), (0, .ref a_m), (1, .int u1), (2, .int e14_.1), (3, .int e14_.2.1)]) hx hb dX6_swap_163 hl (k := 4) rfl rfl (by decide) rfl (fun ls hl => ?_)
        refine lv_goto (tgt := 30) hx hb dX6_swap_166 (by decide) ?_
        exact hC4 _ (zs h) H locs ls hP hD hS (lv_sub hl [1, 2, 3, 4, 0] rfl)
      refine z_lpW (Wh := fun (x10 : Int32 × Int32 × Int32 × Int32 × Int32 × Int32 × (Nat → Int32)) => zW p l e (zR 7 156) s m ([.ref a_m, .int u1] : List Value).toArray below meth c Q 6 A G [(a_m, .inr (6, [.ref a_m_state, .ref a_m_readPage, .int m_toldOnce, .ref a_m_tape, .int m_taped, .int m_fault, .int m_broken, .int m_brokenAt, .int m_spot, .int m_here, .int m_token, .int m_value, .ref a_m_cuts, .ref a_m_letters, .int m_silent, .int x10.2.2.2.1, .int x10.2.2.2.2.1, .int x10.2.2.2.2.2.1, .ref a_m_seen, .int m_seenMany, .ref a_m_pointBy, .ref a_m_isKept, .ref a_m_lanes, .ref a_m_lengths, .ref a_m_sheetCells, .int m_torn])), (a_m_state, .inl (k 0, 156, .inl x10.2.2.2.2.2.2))] [(0, .ref a_m), (1, .int u1), (2, .int x10.1), (3, .int x10.2.1), (4, .int x3.2.2.1), (5, .int x10.2.2.1)] 48 []) ?_ 1000 _ hv H locs ls hP hD hS (lv_sub hl [1, 2, 3, 4, 5, 0] rfl)
      clear h
      intro x10 o h hC11 hX12 H locs ls hP hD hS hl
      unfold p_X6_swap_b48 at h
      refine lv_iload hx hb dX6_swap_48 (lv_at hl 5 rfl) ?_
      refine lv_aload_n hx hb dX6_swap_50 rfl (lv_at hl 0 rfl) ?_
      refine va_get (D := G) (ci := 6) (v := .ref a_m_state) (C := RX6) (T := TX6) (N := 26) hx hb hts iw_X6_swap_X6 hown hK hP 0 rfl rfl 0 (by decide) (hts (.fieldLink RX6 7 "SpireLeanModel" "state" "[I") (List.mem_of_getElem? (i := 2) rfl)) (fun _ h9 => h9) rfl dX6_swap_51 ?_
      refine lv_bipush (v := 20) hx hb dX6_swap_54 (by decide) ?_
      obtain ⟨v16, hv, h⟩ := zb h
      refine z_iald hx hb hK hP 1 0 rfl rfl hv dX6_swap_56 ?_
      refine lv_icmp_ge (tgt := 163) hx hb dX6_swap_57 (by decide) (fun c28 => ?_) (fun c28 => ?_)
      · have h := zit c28 h
        exact hJ13 _ (hX12 _ (zs h)) H locs ls hP hD hS (lv_sub hl [0, 1, 2, 3, 4] rfl)
      · have h := zif c28 h
        refine lv_aload_n hx hb dX6_swap_60 rfl (lv_at hl 0 rfl) ?_
        refine lv_iconst (v := 0) hx hb dX6_swap_61 (by decide) ?_
        refine lv_sipush (v := 130) hx hb dX6_swap_62 (by decide) ?_
        obtain ⟨o17, hv, h⟩ := zb h
        refine z_gov (w2 := [(a_m, .inr (6, [.ref a_m_state, .ref a_m_readPage, .int m_toldOnce, .ref a_m_tape, .int m_taped, .int m_fault, .int m_broken, .int m_brokenAt, .int m_spot, .int m_here, .int m_token, .int m_value, .ref a_m_cuts, .ref a_m_letters, .int m_silent, .int x10.2.2.2.1, .int x10.2.2.2.2.1, .int x10.2.2.2.2.2.1, .ref a_m_seen, .int m_seenMany, .ref a_m_pointBy, .ref a_m_isKept, .ref a_m_lanes, .ref a_m_lengths, .ref a_m_sheetCells, .int m_torn])), (a_m_state, .inl (k 0, 156, .inl o17))]) [0, 1] (va_runV (As := [.int (0 : Int32), .int (130 : Int32)]) (rest := []) ⟨hx, hb, hml, hown, hts⟩ (c_X6_copies l G k tL tM sK sV a_m a_m_state a_m_readPage a_m_tape a_m_cuts a_m_letters a_m_seen a_m_pointBy a_m_isKept a_m_lanes a_m_lengths a_m_sheetCells H.size m_toldOnce m_taped m_fault m_broken m_brokenAt m_spot m_here m_token m_value m_silent x10.2.2.2.1 x10.2.2.2.2.1 x10.2.2.2.2.2.1 m_seenMany m_torn x10.2.2.2.2.2.2 (0 : Int32) (130 : Int32) o17 hv) (cwV 2 hts gX6_swap_X6_copies rfl rfl rfl (by decide +kernel) ⟨Nat.le_of_ble_eq_true rfl, Nat.le_of_ble_eq_true rfl⟩) (z_preV (wc := [(a_m, .inr (6, [.ref a_m_state, .ref a_m_readPage, .int m_toldOnce, .ref a_m_tape, .int m_taped, .int m_fault, .int m_broken, .int m_brokenAt, .int m_spot, .int m_here, .int m_token, .int m_value, .ref a_m_cuts, .ref a_m_letters, .int m_silent, .int x10.2.2.2.1, .int x10.2.2.2.2.1, .int x10.2.2.2.2.2.1, .ref a_m_seen, .int m_seenMany, .ref a_m_pointBy, .ref a_m_isKept, .ref a_m_lanes, .ref a_m_lengths, .ref a_m_sheetCells, .int m_torn])), (a_m_state, .inl (k 0, 156, .inl x10.2.2.2.2.2.2))]) [0, 1] 0 6 hK hE hA hP hD hS (by decide) rfl rfl rfl) rfl rfl hl.1 rfl (lv_room (Nat.le_of_ble_eq_true rfl)) dX6_swap_65 ⟨Nat.le_refl _, Nat.le_refl _⟩) hA hP hD hS rfl rfl rfl rfl (fun H locs hP hD hS => ?_)
        refine lv_aload_n hx hb dX6_swap_68 rfl (lv_at hl 0 rfl) ?_
        refine va_get (D := G) (ci := 6) (v := .ref a_m_state) (C := RX6) (T := TX6) (N := 26) hx hb hts iw_X6_swap_X6 hown hK hP 0 rfl rfl 0 (by decide) (hts (.fieldLink RX6 7 "SpireLeanModel" "state" "[I") (List.mem_of_getElem? (i := 2) rfl)) (fun _ h9 => h9) rfl dX6_swap_69 ?_
        refine lv_sipush (v := 140) hx hb dX6_swap_72 (by decide) ?_
        refine lv_iload hx hb dX6_swap_75 (lv_at hl 4 rfl) ?_
        refine lv_iadd hx hb dX6_swap_77 ?_
        refine lv_aload_n hx hb dX6_swap_78 rfl (lv_at hl 0 rfl) ?_
        refine va_get (D := G) (ci := 6) (v := .ref a_m_state) (C := RX6) (T := TX6) (N := 26) hx hb hts iw_X6_swap_X6 hown hK hP 0 rfl rfl 0 (by decide) (hts (.fieldLink RX6 7 "SpireLeanModel" "state" "[I") (List.mem_of_getElem? (i := 2) rfl)) (fun _ h9 => h9) rfl dX6_swap_79 ?_
        refine lv_bipush (v := 10) hx hb dX6_swap_82 (by decide) ?_
        refine lv_iload hx hb dX6_swap_84 (lv_at hl 5 rfl) ?_
        refine lv_iadd hx hb dX6_swap_86 ?_
        obtain ⟨v18, hv, h⟩ := zb h
        refine z_iald hx hb hK hP 1 0 rfl rfl hv dX6_swap_87 ?_
        obtain ⟨v19, hv, h⟩ := zb h
        refine z_iast hx hb hK hP hD hS 1 0 rfl rfl hv dX6_swap_88 (fun H locs hP hD hS => ?_)
        have hP : va_P G vwCl [(a_m, .inr (6, [.ref a_m_state, .ref a_m_readPage, .int m_toldOnce, .ref a_m_tape, .int m_taped, .int m_fault, .int m_broken, .int m_brokenAt, .int m_spot, .int m_here, .int m_token, .int m_value, .ref a_m_cuts, .ref a_m_letters, .int m_silent, .int x10.2.2.2.1, .int x10.2.2.2.2.1, .int x10.2.2.2.2.2.1, .ref a_m_seen, .int m_seenMany, .ref a_m_pointBy, .ref a_m_isKept, .ref a_m_lanes, .ref a_m_lengths, .ref a_m_sheetCells, .int m_torn])), (a_m_state, .inl (k 0, 156, .inl v19))] H := hP
        have hD : va_D A [(a_m, .inr (6, [.ref a_m_state, .ref a_m_readPage, .int m_toldOnce, .ref a_m_tape, .int m_taped, .int m_fault, .int m_broken, .int m_brokenAt, .int m_spot, .int m_here, .int m_token, .int m_value, .ref a_m_cuts, .ref a_m_letters, .int m_silent, .int x10.2.2.2.1, .int x10.2.2.2.2.1, .int x10.2.2.2.2.2.1, .ref a_m_seen, .int m_seenMany, .ref a_m_pointBy, .ref a_m_isKept, .ref a_m_lanes, .ref a_m_lengths, .ref a_m_sheetCells, .int m_torn])), (a_m_state, .inl (k 0, 156, .inl v19))] := hD
        refine lv_aload_n hx hb dX6_swap_89 rfl (lv_at hl 0 rfl) ?_
        refine va_get (D := G) (ci := 6) (v := .ref a_m_state) (C := RX6) (T := TX6) (N := 26) hx hb hts iw_X6_swap_X6 hown hK hP 0 rfl rfl 0 (by decide) (hts (.fieldLink RX6 7 "SpireLeanModel" "state" "[I") (List.mem_of_getElem? (i := 2) rfl)) (fun _ h9 => h9) rfl dX6_swap_90 ?_
        refine lv_sipush (v := 140) hx hb dX6_swap_93 (by decide) ?_
        refine lv_iload hx hb dX6_swap_96 (lv_at hl 5 rfl) ?_
        refine lv_iadd hx hb dX6_swap_98 ?_
        refine lv_aload_n hx hb dX6_swap_99 rfl (lv_at hl 0 rfl) ?_
        refine va_get (D := G) (ci := 6) (v := .ref a_m_state) (C := RX6) (T := TX6) (N := 26) hx hb hts iw_X6_swap_X6 hown hK hP 0 rfl rfl 0 (by decide) (hts (.fieldLink RX6 7 "SpireLeanModel" "state" "[I") (List.mem_of_getElem? (i := 2) rfl)) (fun _ h9 => h9) rfl dX6_swap_100 ?_
        refine lv_bipush (v := 10) hx hb dX6_swap_103 (by decide) ?_
        refine lv_iload hx hb dX6_swap_105 (lv_at hl 4 rfl) ?_
        refine lv_iadd hx hb dX6_swap_107 ?_
        obtain ⟨v20, hv, h⟩ := zb h
        refine z_iald hx hb hK hP 1 0 rfl rfl hv dX6_swap_108 ?_
        obtain ⟨v21, hv, h⟩ := zb h
        refine z_iast hx hb hK hP hD hS 1 0 rfl rfl hv dX6_swap_109 (fun H locs hP hD hS => ?_)
        have hP : va_P G vwCl [(a_m, .inr (6, [.ref a_m_state, .ref a_m_readPage, .int m_toldOnce, .ref a_m_tape, .int m_taped, .int m_fault, .int m_broken, .int m_brokenAt, .int m_spot, .int m_here, .int m_token, .int m_value, .ref a_m_cuts, .ref a_m_letters, .int m_silent, .int x10.2.2.2.1, .int x10.2.2.2.2.1, .int x10.2.2.2.2.2.1, .ref a_m_seen, .int m_seenMany, .ref a_m_pointBy, .ref a_m_isKept, .ref a_m_lanes, .ref a_m_lengths, .ref a_m_sheetCells, .int m_torn])), (a_m_state, .inl (k 0, 156, .inl v21))] H := hP
        have hD : va_D A [(a_m, .inr (6, [.ref a_m_state, .ref a_m_readPage, .int m_toldOnce, .ref a_m_tape, .int m_taped, .int m_fault, .int m_broken, .int m_brokenAt, .int m_spot, .int m_here, .int m_token, .int m_value, .ref a_m_cuts, .ref a_m_letters, .int m_silent, .int x10.2.2.2.1, .int x10.2.2.2.2.1, .int x10.2.2.2.2.2.1, .ref a_m_seen, .int m_seenMany, .ref a_m_pointBy, .ref a_m_isKept, .ref a_m_lanes, .ref a_m_lengths, .ref a_m_sheetCells, .int m_torn])), (a_m_state, .inl (k 0, 156, .inl v21))] := hD
        refine lv_aload_n hx hb dX6_swap_110 rfl (lv_at hl 0 rfl) ?_
        refine lv_sipush (v := 130) hx hb dX6_swap_111 (by decide) ?_
        refine lv_bipush (v := 60) hx hb dX6_swap_114 (by decide) ?_
        obtain ⟨o22, hv, h⟩ := zb h
        refine z_gov (w2 := [(a_m, .inr (6, [.ref a_m_state, .ref a_m_readPage, .int m_toldOnce, .ref a_m_tape, .int m_taped, .int m_fault, .int m_broken, .int m_brokenAt, .int m_spot, .int m_here, .int m_token, .int m_value, .ref a_m_cuts, .ref a_m_letters, .int m_silent, .int o22.1, .int o22.2.1, .int o22.2.2.1, .ref a_m_seen, .int m_seenMany, .ref a_m_pointBy, .ref a_m_isKept, .ref a_m_lanes, .ref a_m_lengths, .ref a_m_sheetCells, .int m_torn])), (a_m_state, .inl (k 0, 156, .inl o22.2.2.2))]) [0, 1] (va_runV (As := [.int (130 : Int32), .int (60 : Int32)]) (rest := []) ⟨hx, hb, hml, hown, hts⟩ (c_X6_yearsGo l G k tL tM sK sV a_m a_m_state a_m_readPage a_m_tape a_m_cuts a_m_letters a_m_seen a_m_pointBy a_m_isKept a_m_lanes a_m_lengths a_m_sheetCells H.size m_toldOnce m_taped m_fault m_broken m_brokenAt m_spot m_here m_token m_value m_silent x10.2.2.2.1 x10.2.2.2.2.1 x10.2.2.2.2.2.1 m_seenMany m_torn v21 (130 : Int32) (60 : Int32) o22 hv) (cwV 2 hts gX6_swap_X6_yearsGo rfl rfl rfl (by decide +kernel) ⟨Nat.le_of_ble_eq_true rfl, Nat.le_of_ble_eq_true rfl⟩) (z_preV (wc := [(a_m, .inr (6, [.ref a_m_state, .ref a_m_readPage, .int m_toldOnce, .ref a_m_tape, .int m_taped, .int m_fault, .int m_broken, .int m_brokenAt, .int m_spot, .int m_here, .int m_token, .int m_value, .ref a_m_cuts, .ref a_m_letters, .int m_silent, .int x10.2.2.2.1, .int x10.2.2.2.2.1, .int x10.2.2.2.2.2.1, .ref a_m_seen, .int m_seenMany, .ref a_m_pointBy, .ref a_m_isKept, .ref a_m_lanes, .ref a_m_lengths, .ref a_m_sheetCells, .int m_torn])), (a_m_state, .inl (k 0, 156, .inl v21))]) [0, 1] 0 6 hK hE hA hP hD hS (by decide) rfl rfl rfl) rfl rfl hl.1 rfl (lv_room (Nat.le_of_ble_eq_true rfl)) dX6_swap_116 ⟨Nat.le_refl _, Nat.le_refl _⟩) hA hP hD hS rfl rfl rfl rfl (fun H locs hP hD hS => ?_)
        refine lv_aload_n hx hb dX6_swap_119 rfl (lv_at hl 0 rfl) ?_
        refine va_get (D := G) (ci := 6) (v := .int o22.1) (C := RX6) (T := TX6) (N := 26) hx hb hts iw_X6_swap_X6 hown hK hP 0 rfl rfl 15 (by decide) (hts (.fieldLink RX6 191 "SpireLeanModel" "greatest" "I") (List.mem_of_getElem? (i := 1) rfl)) (fun _ h9 => h9) rfl dX6_swap_120 ?_
        refine lv_iload_n hx hb dX6_swap_123 rfl (lv_at hl 2 rfl) ?_
        have hJ23 : ∀ (y24 : Int32), y24 = (if x10.1 ≤ o22.1 then x10.2.1 else ((10 : Int32) * x3.2.2.1) + x10.2.2.1) → zW p l e (zR 7 156) s m ([.ref a_m, .int u1] : List Value).toArray below meth c Q 6 A G [(a_m, .inr (6, [.ref a_m_state, .ref a_m_readPage, .int m_toldOnce, .ref a_m_tape, .int m_taped, .int m_fault, .int m_broken, .int m_brokenAt, .int m_spot, .int m_here, .int m_token, .int m_value, .ref a_m_cuts, .ref a_m_letters, .int m_silent, .int o22.1, .int o22.2.1, .int o22.2.2.1, .ref a_m_seen, .int m_seenMany, .ref a_m_pointBy, .ref a_m_isKept, .ref a_m_lanes, .ref a_m_lengths, .ref a_m_sheetCells, .int m_torn])), (a_m_state, .inl (k 0, 156, .inl o22.2.2.2))] [(0, .ref a_m), (1, .int u1), (2, .int x10.1), (4, .int x3.2.2.1), (5, .int x10.2.2.1)] 139 [.int y24] := by
          intro y24 q25
          subst q25
          intro H locs ls hP hD hS hl
          refine lv_istore_n (lv' := [(3, .int (if x10.1 ≤ o22.1 then x10.2.1 else ((10 : Int32) * x3.2.2.1) + x10.2.2.1)), (0, .ref a_m), (1, .int u1), (2, .int x10.1), (4, .int x3.2.2.1), (5, .int x10.2.2.1)]) hx hb dX6_swap_139 rfl hl (by decide) rfl (fun ls hl => ?_)
          refine lv_aload_n hx hb dX6_swap_140 rfl (lv_at hl 1 rfl) ?_
          refine va_get (D := G) (ci := 6) (v := .int o22.1) (C := RX6) (T := TX6) (N := 26) hx hb hts iw_X6_swap_X6 hown hK hP 0 rfl rfl 15 (by decide) (hts (.fieldLink RX6 191 "SpireLeanModel" "greatest" "I") (List.mem_of_getElem? (i := 1) rfl)) (fun _ h9 => h9) rfl dX6_swap_141 ?_
          refine lv_iload_n hx hb dX6_swap_144 rfl (lv_at hl 3 rfl) ?_
          refine lv_icmp_ge (tgt := 155) hx hb dX6_swap_145 (by decide) (fun c27 => ?_) (fun c27 => ?_)
          · have h := zit c27 h
            refine lv_iload_n hx hb dX6_swap_155 rfl (lv_at hl 3 rfl) ?_
            refine lv_istore_n (lv' := [(2, .int x10.1), (3, .int (if x10.1 ≤ o22.1 then x10.2.1 else ((10 : Int32) * x3.2.2.1) + x10.2.2.1)), (0, .ref a_m), (1, .int u1), (4, .int x3.2.2.1), (5, .int x10.2.2.1)]) hx hb dX6_swap_156 rfl hl (by decide) rfl (fun ls hl => ?_)
            refine lv_iinc (v := x10.2.2.1 + (1 : Int32)) (lv' := [(5, .int (x10.2.2.1 + (1 : Int32))), (2, .int x10.1), (3, .int (if x10.1 ≤ o22.1 then x10.2.1 else ((10 : Int32) * x3.2.2.1) + x10.2.2.1)), (0, .ref a_m), (1, .int u1), (4, .int x3.2.2.1)]) hx hb dX6_swap_157 hl (k := 5) rfl rfl (by decide) rfl (fun ls hl => ?_)
            refine lv_goto (tgt := 48) hx hb dX6_swap_160 (by decide) ?_
            exact hC11 _ (zs h) H locs ls hP hD hS (lv_sub hl [3, 4, 1, 2, 5, 0] rfl)
          · have h := zif c27 h
            refine lv_aload_n hx hb dX6_swap_148 rfl (lv_at hl 1 rfl) ?_
            refine va_get (D := G) (ci := 6) (v := .int o22.1) (C := RX6) (T := TX6) (N := 26) hx hb hts iw_X6_swap_X6 hown hK hP 0 rfl rfl 15 (by decide) (hts (.fieldLink RX6 191 "SpireLeanModel" "greatest" "I") (List.mem_of_getElem? (i := 1) rfl)) (fun _ h9 => h9) rfl dX6_swap_149 ?_
            refine lv_goto (tgt := 156) hx hb dX6_swap_152 (by decide) ?_
            refine lv_istore_n (lv' := [(2, .int o22.1), (3, .int (if x10.1 ≤ o22.1 then x10.2.1 else ((10 : Int32) * x3.2.2.1) + x10.2.2.1)), (0, .ref a_m), (1, .int u1), (4, .int x3.2.2.1), (5, .int x10.2.2.1)]) hx hb dX6_swap_156 rfl hl (by decide) rfl (fun ls hl => ?_)
            refine lv_iinc (v := x10.2.2.1 + (1 : Int32)) (lv' := [(5, .int (x10.2.2.1 + (1 : Int32))), (2, .int o22.1), (3, .int (if x10.1 ≤ o22.1 then x10.2.1 else ((10 : Int32) * x3.2.2.1) + x10.2.2.1)), (0, .ref a_m), (1, .int u1), (4, .int x3.2.2.1)]) hx hb dX6_swap_157 hl (k := 5) rfl rfl (by decide) rfl (fun ls hl => ?_)
            refine lv_goto (tgt := 48) hx hb dX6_swap_160 (by decide) ?_
            exact hC11 _ (zs h) H locs ls hP hD hS (lv_sub hl [3, 4, 1, 2, 5, 0] rfl)
        refine lv_icmp_ge (tgt := 138) hx hb dX6_swap_124 (by decide) (fun c26 => ?_) (fun c26 => ?_)
        · refine lv_iload_n hx hb dX6_swap_138 rfl (lv_at hl 3 rfl) ?_
          exact hJ23 _ (if_pos c26).symm H locs ls hP hD hS (lv_sub hl [0, 1, 2, 4, 5] rfl)
        · refine lv_bipush (v := 10) hx hb dX6_swap_127 (by decide) ?_
          refine lv_iload hx hb dX6_swap_129 (lv_at hl 4 rfl) ?_
          refine lv_imul hx hb dX6_swap_131 ?_
          refine lv_iload hx hb dX6_swap_132 (lv_at hl 5 rfl) ?_
          refine lv_iadd hx hb dX6_swap_134 ?_
          refine lv_goto (tgt := 139) hx hb dX6_swap_135 (by decide) ?_
          exact hJ23 _ (if_neg c26).symm H locs ls hP hD hS (lv_sub hl [0, 1, 2, 4, 5] rfl)
  · have h := zit c32 h
    refine lv_iconst (v := (-1)) hx hb dX6_swap_10 (by decide) ?_
    have hr := (zs h)
    subst hr
    exact hret H locs ls 11 hP hS dX6_swap_11
theorem iw_X6_kind_X6 : ∀ w ∈ wsX60, w ∈ wsX6_kind := fun _ h => List.mem_cons_of_mem _ (List.mem_append_right _ h)
set_option maxHeartbeats 4000000 in
set_option maxRecDepth 100000 in
theorem c_X6_kind (l : Launch) (G : va_G) (k : Nat → ClassId) (tL tM : Nat) (sK sV : Nat → Nat) (a_m : Nat) (a_m_state : Nat) (a_m_readPage : Nat) (a_m_tape : Nat) (a_m_cuts : Nat) (a_m_letters : Nat) (a_m_seen : Nat) (a_m_pointBy : Nat) (a_m_isKept : Nat) (a_m_lanes : Nat) (a_m_lengths : Nat) (a_m_sheetCells : Nat) (sz : Nat) (m_toldOnce : Int32) (m_taped : Int32) (m_fault : Int32) (m_broken : Int32) (m_brokenAt : Int32) (m_spot : Int32) (m_here : Int32) (m_token : Int32) (m_value : Int32) (m_silent : Int32) (m_greatest : Int32) (m_moves : Int32) (m_holders : Int32) (m_seenMany : Int32) (m_torn : Int32) (m_state : Nat → Int32) (u1 : Int32) (u2 : Int32) (u3 : Int32) (out : Int32 × Int32 × Int32 × Int32 × (Nat → Int32)) (h : p_X6_kind u1 u2 u3 m_silent m_greatest m_moves m_holders m_state = some out) : zMi l yX6_kind wsX6_kind 7 156 G k tL tM sK sV [.ref a_m, .int u1, .int u2, .int u3] [(a_m, .inr (6, [.ref a_m_state, .ref a_m_readPage, .int m_toldOnce, .ref a_m_tape, .int m_taped, .int m_fault, .int m_broken, .int m_brokenAt, .int m_spot, .int m_here, .int m_token, .int m_value, .ref a_m_cuts, .ref a_m_letters, .int m_silent, .int m_greatest, .int m_moves, .int m_holders, .ref a_m_seen, .int m_seenMany, .ref a_m_pointBy, .ref a_m_isKept, .ref a_m_lanes, .ref a_m_lengths, .ref a_m_sheetCells, .int m_torn])), (a_m_state, .inl (k 0, 156, .inl m_state))] [(a_m, .inr (6, [.ref a_m_state, .ref a_m_readPage, .int m_toldOnce, .ref a_m_tape, .int m_taped, .int m_fault, .int m_broken, .int m_brokenAt, .int m_spot, .int m_here, .int m_token, .int m_value, .ref a_m_cuts, .ref a_m_letters, .int m_silent, .int out.2.1, .int out.2.2.1, .int out.2.2.2.1, .ref a_m_seen, .int m_seenMany, .ref a_m_pointBy, .ref a_m_isKept, .ref a_m_lanes, .ref a_m_lengths, .ref a_m_sheetCells, .int m_torn])), (a_m_state, .inl (k 0, 156, .inl out.2.2.2.2))] out.1 sz := by
  refine z_meti (cc := cX6_kind) (maxL := 8) (by decide) rfl (Nat.le_of_ble_eq_true rfl) ?_
  intro p e s m below meth c A Q H locs ls hx hb hml hts hown hA hK hE hret hP hD hS hl
  have hown : s.vm.findClass RX6 = some m.cls := hown
  have hl : lv_has ls 8 [(0, .ref a_m), (1, .int u1), (2, .int u2), (3, .int u3)] := hl
  unfold p_X6_kind at h
  refine lv_aload_n hx hb dX6_kind_0 rfl (lv_at hl 0 rfl) ?_
  refine lv_iload_n hx hb dX6_kind_1 rfl (lv_at hl 1 rfl) ?_
  obtain ⟨o1, hv, h⟩ := zb h
  refine z_goi (w2 := [(a_m, .inr (6, [.ref a_m_state, .ref a_m_readPage, .int m_toldOnce, .ref a_m_tape, .int m_taped, .int m_fault, .int m_broken, .int m_brokenAt, .int m_spot, .int m_here, .int m_token, .int m_value, .ref a_m_cuts, .ref a_m_letters, .int m_silent, .int m_greatest, .int m_moves, .int m_holders, .ref a_m_seen, .int m_seenMany, .ref a_m_pointBy, .ref a_m_isKept, .ref a_m_lanes, .ref a_m_lengths, .ref a_m_sheetCells, .int m_torn])), (a_m_state, .inl (k 0, 156, .inl m_state))]) [0, 1] (va_runV (As := [.int u1]) (rest := []) ⟨hx, hb, hml, hown, hts⟩ (c_X6_isDraw l G k tL tM sK sV a_m a_m_state a_m_readPage a_m_tape a_m_cuts a_m_letters a_m_seen a_m_pointBy a_m_isKept a_m_lanes a_m_lengths a_m_sheetCells H.size m_toldOnce m_taped m_fault m_broken m_brokenAt m_spot m_here m_token m_value m_silent m_greatest m_moves m_holders m_seenMany m_torn m_state u1 o1 hv) (cwV 1 hts gX6_kind_X6_isDraw rfl rfl rfl (by decide +kernel) ⟨Nat.le_of_ble_eq_true rfl, Nat.le_of_ble_eq_true rfl⟩) (z_preV (wc := [(a_m, .inr (6, [.ref a_m_state, .ref a_m_readPage, .int m_toldOnce, .ref a_m_tape, .int m_taped, .int m_fault, .int m_broken, .int m_brokenAt, .int m_spot, .int m_here, .int m_token, .int m_value, .ref a_m_cuts, .ref a_m_letters, .int m_silent, .int m_greatest, .int m_moves, .int m_holders, .ref a_m_seen, .int m_seenMany, .ref a_m_pointBy, .ref a_m_isKept, .ref a_m_lanes, .ref a_m_lengths, .ref a_m_sheetCells, .int m_torn])), (a_m_state, .inl (k 0, 156, .inl m_state))]) [0, 1] 0 6 hK hE hA hP hD hS (by decide) rfl rfl rfl) rfl rfl hl.1 rfl (lv_room (Nat.le_of_ble_eq_true rfl)) dX6_kind_2 ⟨Nat.le_refl _, Nat.le_refl _⟩) hA hP hD hS rfl rfl rfl rfl (fun H locs hP hD hS => ?_)
  refine lv_if_eq (tgt := 30) hx hb dX6_kind_5 (by decide) (fun c25 => ?_) (fun c25 => ?_)
  · have h := zit c25 h
    refine lv_iconst (v := (-1)) hx hb dX6_kind_30 (by decide) ?_
    have hr := (zs h)
    subst hr
    exact hret H locs ls 31 hP hS dX6_kind_31
  · have h := zif c25 h
    refine lv_iload_n hx hb dX6_kind_8 rfl (lv_at hl 2 rfl) ?_
    refine lv_i2l (v := u2.toInt64) hx hb dX6_kind_9 rfl ?_
    refine lv_lconst (v := 0) hx hb dX6_kind_10 (by decide) ?_
    refine lv_ldc2 hx hb hown (hts (.constantLong RX6 163 (60)) (List.mem_of_getElem? (i := 1) rfl)) dX6_kind_11 ?_
    obtain ⟨o2, hv, h⟩ := zb h
    refine z_goi (w2 := [(a_m, .inr (6, [.ref a_m_state, .ref a_m_readPage, .int m_toldOnce, .ref a_m_tape, .int m_taped, .int m_fault, .int m_broken, .int m_brokenAt, .int m_spot, .int m_here, .int m_token, .int m_value, .ref a_m_cuts, .ref a_m_letters, .int m_silent, .int m_greatest, .int m_moves, .int m_holders, .ref a_m_seen, .int m_seenMany, .ref a_m_pointBy, .ref a_m_isKept, .ref a_m_lanes, .ref a_m_lengths, .ref a_m_sheetCells, .int m_torn])), (a_m_state, .inl (k 0, 156, .inl m_state))]) [] (va_runS (As := [.long u2.toInt64, .long (0 : Int64), .long (60 : Int64)]) (rest := []) ⟨hx, hb, hml, hown, hts⟩ (c_X6_in l G k tL tM sK sV H.size u2.toInt64 (0 : Int64) (60 : Int64) o2 hv) (va_cwS 3 hts gX6_kind_X6_in rfl rfl rfl (by decide +kernel) ⟨Nat.le_of_ble_eq_true rfl, Nat.le_of_ble_eq_true rfl⟩) (z_preS (wc := []) [] hK hE hA hP hD hS (by decide) rfl) rfl rfl hl.1 rfl (lv_room (Nat.le_of_ble_eq_true rfl)) dX6_kind_14 ⟨Nat.le_refl _, Nat.le_refl _⟩) hA hP hD hS rfl rfl rfl rfl (fun H locs hP hD hS => ?_)
    refine lv_if_eq (tgt := 30) hx hb dX6_kind_17 (by decide) (fun c24 => ?_) (fun c24 => ?_)
    · have h := zit c24 h
      refine lv_iconst (v := (-1)) hx hb dX6_kind_30 (by decide) ?_
      have hr := (zs h)
      subst hr
      exact hret H locs ls 31 hP hS dX6_kind_31
    · have h := zif c24 h
      refine lv_iload_n hx hb dX6_kind_20 rfl (lv_at hl 3 rfl) ?_
      refine lv_i2l (v := u3.toInt64) hx hb dX6_kind_21 rfl ?_
      refine lv_lconst (v := 0) hx hb dX6_kind_22 (by decide) ?_
      refine lv_lconst (v := 1) hx hb dX6_kind_23 (by decide) ?_
      obtain ⟨o3, hv, h⟩ := zb h
      refine z_goi (w2 := [(a_m, .inr (6, [.ref a_m_state, .ref a_m_readPage, .int m_toldOnce, .ref a_m_tape, .int m_taped, .int m_fault, .int m_broken, .int m_brokenAt, .int m_spot, .int m_here, .int m_token, .int m_value, .ref a_m_cuts, .ref a_m_letters, .int m_silent, .int m_greatest, .int m_moves, .int m_holders, .ref a_m_seen, .int m_seenMany, .ref a_m_pointBy, .ref a_m_isKept, .ref a_m_lanes, .ref a_m_lengths, .ref a_m_sheetCells, .int m_torn])), (a_m_state, .inl (k 0, 156, .inl m_state))]) [] (va_runS (As := [.long u3.toInt64, .long (0 : Int64), .long (1 : Int64)]) (rest := []) ⟨hx, hb, hml, hown, hts⟩ (c_X6_in l G k tL tM sK sV H.size u3.toInt64 (0 : Int64) (1 : Int64) o3 hv) (va_cwS 3 hts gX6_kind_X6_in rfl rfl rfl (by decide +kernel) ⟨Nat.le_of_ble_eq_true rfl, Nat.le_of_ble_eq_true rfl⟩) (z_preS (wc := []) [] hK hE hA hP hD hS (by decide) rfl) rfl rfl hl.1 rfl (lv_room (Nat.le_of_ble_eq_true rfl)) dX6_kind_24 ⟨Nat.le_refl _, Nat.le_refl _⟩) hA hP hD hS rfl rfl rfl rfl (fun H locs hP hD hS => ?_)
      refine lv_if_ne (tgt := 32) hx hb dX6_kind_27 (by decide) (fun c23 => ?_) (fun c23 => ?_)
      · have h := zif c23 h
        refine lv_bipush (v := 100) hx hb dX6_kind_32 (by decide) ?_
        refine lv_istore (lv' := [(4, .int (100 : Int32)), (0, .ref a_m), (1, .int u1), (2, .int u2), (3, .int u3)]) hx hb dX6_kind_34 hl (by decide) rfl (fun ls hl => ?_)
        refine lv_iconst (v := 0) hx hb dX6_kind_36 (by decide) ?_
        refine lv_istore (lv' := [(5, .int (0 : Int32)), (4, .int (100 : Int32)), (0, .ref a_m), (1, .int u1), (2, .int u2), (3, .int u3)]) hx hb dX6_kind_37 hl (by decide) rfl (fun ls hl => ?_)
        refine lv_iconst (v := 0) hx hb dX6_kind_39 (by decide) ?_
        refine lv_istore (lv' := [(6, .int (0 : Int32)), (5, .int (0 : Int32)), (4, .int (100 : Int32)), (0, .ref a_m), (1, .int u1), (2, .int u2), (3, .int u3)]) hx hb dX6_kind_40 hl (by decide) rfl (fun ls hl => ?_)
        obtain ⟨e8, hv, h⟩ := zb h
        have hJ7 : ∀ (e8_ : Int32 × Int32 × Int32 × Int32 × Int32 × (Nat → Int32)), e8_ = e8 → zW p l e (zR 7 156) s m ([.ref a_m, .int u1, .int u2, .int u3] : List Value).toArray below meth c Q 8 A G [(a_m, .inr (6, [.ref a_m_state, .ref a_m_readPage, .int m_toldOnce, .ref a_m_tape, .int m_taped, .int m_fault, .int m_broken, .int m_brokenAt, .int m_spot, .int m_here, .int m_token, .int m_value, .ref a_m_cuts, .ref a_m_letters, .int m_silent, .int e8_.2.2.1, .int e8_.2.2.2.1, .int e8_.2.2.2.2.1, .ref a_m_seen, .int m_seenMany, .ref a_m_pointBy, .ref a_m_isKept, .ref a_m_lanes, .ref a_m_lengths, .ref a_m_sheetCells, .int m_torn])), (a_m_state, .inl (k 0, 156, .inl e8_.2.2.2.2.2))] [(3, .int u3), (4, .int e8_.1), (5, .int e8_.2.1)] 134 [] := by
          intro e8_ hz
          subst hz
          intro H locs ls hP hD hS hl
          refine lv_iload_n hx hb dX6_kind_134 rfl (lv_at hl 0 rfl) ?_
          refine lv_if_ne (tgt := 143) hx hb dX6_kind_135 (by decide) (fun c22 => ?_) (fun c22 => ?_)
          · have h := zif c22 h
            refine lv_iload hx hb dX6_kind_143 (lv_at hl 1 rfl) ?_
            have hr := (zs h)
            subst hr
            exact hret H locs ls 145 hP hS dX6_kind_145
          · have h := zit c22 h
            refine lv_iload hx hb dX6_kind_138 (lv_at hl 2 rfl) ?_
            refine lv_goto (tgt := 145) hx hb dX6_kind_140 (by decide) ?_
            have hr := (zs h)
            subst hr
            exact hret H locs ls 145 hP hS dX6_kind_145
        refine z_lpW (Wh := fun (x4 : Int32 × Int32 × Int32 × Int32 × Int32 × Int32 × (Nat → Int32)) => zW p l e (zR 7 156) s m ([.ref a_m, .int u1, .int u2, .int u3] : List Value).toArray below meth c Q 8 A G [(a_m, .inr (6, [.ref a_m_state, .ref a_m_readPage, .int m_toldOnce, .ref a_m_tape, .int m_taped, .int m_fault, .int m_broken, .int m_brokenAt, .int m_spot, .int m_here, .int m_token, .int m_value, .ref a_m_cuts, .ref a_m_letters, .int m_silent, .int x4.2.2.2.1, .int x4.2.2.2.2.1, .int x4.2.2.2.2.2.1, .ref a_m_seen, .int m_seenMany, .ref a_m_pointBy, .ref a_m_isKept, .ref a_m_lanes, .ref a_m_lengths, .ref a_m_sheetCells, .int m_torn])), (a_m_state, .inl (k 0, 156, .inl x4.2.2.2.2.2.2))] [(0, .ref a_m), (1, .int u1), (2, .int u2), (3, .int u3), (4, .int x4.1), (5, .int x4.2.1), (6, .int x4.2.2.1)] 42 []) ?_ 1000 _ hv H locs ls hP hD hS (lv_sub hl [3, 4, 5, 6, 2, 1, 0] rfl)
        clear h
        intro x4 o h hC5 hX6 H locs ls hP hD hS hl
        unfold p_X6_kind_b42 at h
        refine lv_iload hx hb dX6_kind_42 (lv_at hl 6 rfl) ?_
        refine lv_iconst (v := 4) hx hb dX6_kind_44 (by decide) ?_
        refine lv_icmp_ge (tgt := 134) hx hb dX6_kind_45 (by decide) (fun c21 => ?_) (fun c21 => ?_)
        · have h := zit c21 h
          exact hJ7 _ (hX6 _ (zs h)) H locs ls hP hD hS (lv_sub hl [3, 4, 5] rfl)
        · have h := zif c21 h
          refine lv_aload_n hx hb dX6_kind_48 rfl (lv_at hl 0 rfl) ?_
          refine lv_iconst (v := 0) hx hb dX6_kind_49 (by decide) ?_
          refine lv_sipush (v := 130) hx hb dX6_kind_50 (by decide) ?_
          obtain ⟨o10, hv, h⟩ := zb h
          refine z_gov (w2 := [(a_m, .inr (6, [.ref a_m_state, .ref a_m_readPage, .int m_toldOnce, .ref a_m_tape, .int m_taped, .int m_fault, .int m_broken, .int m_brokenAt, .int m_spot, .int m_here, .int m_token, .int m_value, .ref a_m_cuts, .ref a_m_letters, .int m_silent, .int x4.2.2.2.1, .int x4.2.2.2.2.1, .int x4.2.2.2.2.2.1, .ref a_m_seen, .int m_seenMany, .ref a_m_pointBy, .ref a_m_isKept, .ref a_m_lanes, .ref a_m_lengths, .ref a_m_sheetCells, .int m_torn])), (a_m_state, .inl (k 0, 156, .inl o10))]) [0, 1] (va_runV (As := [.int (0 : Int32), .int (130 : Int32)]) (rest := []) ⟨hx, hb, hml, hown, hts⟩ (c_X6_copies l G k tL tM sK sV a_m a_m_state a_m_readPage a_m_tape a_m_cuts a_m_letters a_m_seen a_m_pointBy a_m_isKept a_m_lanes a_m_lengths a_m_sheetCells H.size m_toldOnce m_taped m_fault m_broken m_brokenAt m_spot m_here m_token m_value m_silent x4.2.2.2.1 x4.2.2.2.2.1 x4.2.2.2.2.2.1 m_seenMany m_torn x4.2.2.2.2.2.2 (0 : Int32) (130 : Int32) o10 hv) (cwV 2 hts gX6_kind_X6_copies rfl rfl rfl (by decide +kernel) ⟨Nat.le_of_ble_eq_true rfl, Nat.le_of_ble_eq_true rfl⟩) (z_preV (wc := [(a_m, .inr (6, [.ref a_m_state, .ref a_m_readPage, .int m_toldOnce, .ref a_m_tape, .int m_taped, .int m_fault, .int m_broken, .int m_brokenAt, .int m_spot, .int m_here, .int m_token, .int m_value, .ref a_m_cuts, .ref a_m_letters, .int m_silent, .int x4.2.2.2.1, .int x4.2.2.2.2.1, .int x4.2.2.2.2.2.1, .ref a_m_seen, .int m_seenMany, .ref a_m_pointBy, .ref a_m_isKept, .ref a_m_lanes, .ref a_m_lengths, .ref a_m_sheetCells, .int m_torn])), (a_m_state, .inl (k 0, 156, .inl x4.2.2.2.2.2.2))]) [0, 1] 0 6 hK hE hA hP hD hS (by decide) rfl rfl rfl) rfl rfl hl.1 rfl (lv_room (Nat.le_of_ble_eq_true rfl)) dX6_kind_53 ⟨Nat.le_refl _, Nat.le_refl _⟩) hA hP hD hS rfl rfl rfl rfl (fun H locs hP hD hS => ?_)
          refine lv_aload_n hx hb dX6_kind_56 rfl (lv_at hl 0 rfl) ?_
          refine va_get (D := G) (ci := 6) (v := .ref a_m_state) (C := RX6) (T := TX6) (N := 26) hx hb hts iw_X6_kind_X6 hown hK hP 0 rfl rfl 0 (by decide) (hts (.fieldLink RX6 7 "SpireLeanModel" "state" "[I") (List.mem_of_getElem? (i := 2) rfl)) (fun _ h9 => h9) rfl dX6_kind_57 ?_
          refine lv_sipush (v := 130) hx hb dX6_kind_60 (by decide) ?_
          refine lv_iload_n hx hb dX6_kind_63 rfl (lv_at hl 1 rfl) ?_
          refine lv_iadd hx hb dX6_kind_64 ?_
          refine lv_iload hx hb dX6_kind_65 (lv_at hl 6 rfl) ?_
          obtain ⟨v11, hv, h⟩ := zb h
          refine z_iast hx hb hK hP hD hS 1 0 rfl rfl hv dX6_kind_67 (fun H locs hP hD hS => ?_)
          have hP : va_P G vwCl [(a_m, .inr (6, [.ref a_m_state, .ref a_m_readPage, .int m_toldOnce, .ref a_m_tape, .int m_taped, .int m_fault, .int m_broken, .int m_brokenAt, .int m_spot, .int m_here, .int m_token, .int m_value, .ref a_m_cuts, .ref a_m_letters, .int m_silent, .int x4.2.2.2.1, .int x4.2.2.2.2.1, .int x4.2.2.2.2.2.1, .ref a_m_seen, .int m_seenMany, .ref a_m_pointBy, .ref a_m_isKept, .ref a_m_lanes, .ref a_m_lengths, .ref a_m_sheetCells, .int m_torn])), (a_m_state, .inl (k 0, 156, .inl v11))] H := hP
          have hD : va_D A [(a_m, .inr (6, [.ref a_m_state, .ref a_m_readPage, .int m_toldOnce, .ref a_m_tape, .int m_taped, .int m_fault, .int m_broken, .int m_brokenAt, .int m_spot, .int m_here, .int m_token, .int m_value, .ref a_m_cuts, .ref a_m_letters, .int m_silent, .int x4.2.2.2.1, .int x4.2.2.2.2.1, .int x4.2.2.2.2.2.1, .ref a_m_seen, .int m_seenMany, .ref a_m_pointBy, .ref a_m_isKept, .ref a_m_lanes, .ref a_m_lengths, .ref a_m_sheetCells, .int m_torn])), (a_m_state, .inl (k 0, 156, .inl v11))] := hD
          refine lv_aload_n hx hb dX6_kind_68 rfl (lv_at hl 0 rfl) ?_
          refine lv_sipush (v := 130) hx hb dX6_kind_69 (by decide) ?_
          refine lv_iload_n hx hb dX6_kind_72 rfl (lv_at hl 2 rfl) ?_
          obtain ⟨o12, hv, h⟩ := zb h
          refine z_gov (w2 := [(a_m, .inr (6, [.ref a_m_state, .ref a_m_readPage, .int m_toldOnce, .ref a_m_tape, .int m_taped, .int m_fault, .int m_broken, .int m_brokenAt, .int m_spot, .int m_here, .int m_token, .int m_value, .ref a_m_cuts, .ref a_m_letters, .int m_silent, .int o12.1, .int o12.2.1, .int o12.2.2.1, .ref a_m_seen, .int m_seenMany, .ref a_m_pointBy, .ref a_m_isKept, .ref a_m_lanes, .ref a_m_lengths, .ref a_m_sheetCells, .int m_torn])), (a_m_state, .inl (k 0, 156, .inl o12.2.2.2))]) [0, 1] (va_runV (As := [.int (130 : Int32), .int u2]) (rest := []) ⟨hx, hb, hml, hown, hts⟩ (c_X6_yearsGo l G k tL tM sK sV a_m a_m_state a_m_readPage a_m_tape a_m_cuts a_m_letters a_m_seen a_m_pointBy a_m_isKept a_m_lanes a_m_lengths a_m_sheetCells H.size m_toldOnce m_taped m_fault m_broken m_brokenAt m_spot m_here m_token m_value m_silent x4.2.2.2.1 x4.2.2.2.2.1 x4.2.2.2.2.2.1 m_seenMany m_torn v11 (130 : Int32) u2 o12 hv) (cwV 2 hts gX6_kind_X6_yearsGo rfl rfl rfl (by decide +kernel) ⟨Nat.le_of_ble_eq_true rfl, Nat.le_of_ble_eq_true rfl⟩) (z_preV (wc := [(a_m, .inr (6, [.ref a_m_state, .ref a_m_readPage, .int m_toldOnce, .ref a_m_tape, .int m_taped, .int m_fault, .int m_broken, .int m_brokenAt, .int m_spot, .int m_here, .int m_token, .int m_value, .ref a_m_cuts, .ref a_m_letters, .int m_silent, .int x4.2.2.2.1, .int x4.2.2.2.2.1, .int x4.2.2.2.2.2.1, .ref a_m_seen, .int m_seenMany, .ref a_m_pointBy, .ref a_m_isKept, .ref a_m_lanes, .ref a_m_lengths, .ref a_m_sheetCells, .int m_torn])), (a_m_state, .inl (k 0, 156, .inl v11))]) [0, 1] 0 6 hK hE hA hP hD hS (by decide) rfl rfl rfl) rfl rfl hl.1 rfl (lv_room (Nat.le_of_ble_eq_true rfl)) dX6_kind_73 ⟨Nat.le_refl _, Nat.le_refl _⟩) hA hP hD hS rfl rfl rfl rfl (fun H locs hP hD hS => ?_)
          refine lv_aload_n hx hb dX6_kind_76 rfl (lv_at hl 0 rfl) ?_
          refine va_get (D := G) (ci := 6) (v := .ref a_m_state) (C := RX6) (T := TX6) (N := 26) hx hb hts iw_X6_kind_X6 hown hK hP 0 rfl rfl 0 (by decide) (hts (.fieldLink RX6 7 "SpireLeanModel" "state" "[I") (List.mem_of_getElem? (i := 2) rfl)) (fun _ h9 => h9) rfl dX6_kind_77 ?_
          refine lv_bipush (v := 10) hx hb dX6_kind_80 (by decide) ?_
          refine lv_iload_n hx hb dX6_kind_82 rfl (lv_at hl 1 rfl) ?_
          refine lv_iadd hx hb dX6_kind_83 ?_
          obtain ⟨v13, hv, h⟩ := zb h
          refine z_iald hx hb hK hP 1 0 rfl rfl hv dX6_kind_84 ?_
          refine lv_aload_n hx hb dX6_kind_85 rfl (lv_at hl 0 rfl) ?_
          refine lv_bipush (v := 104) hx hb dX6_kind_86 (by decide) ?_
          obtain ⟨o14, hv, h⟩ := zb h
          refine z_goi (w2 := [(a_m, .inr (6, [.ref a_m_state, .ref a_m_readPage, .int m_toldOnce, .ref a_m_tape, .int m_taped, .int m_fault, .int m_broken, .int m_brokenAt, .int m_spot, .int m_here, .int m_token, .int m_value, .ref a_m_cuts, .ref a_m_letters, .int m_silent, .int o12.1, .int o12.2.1, .int o12.2.2.1, .ref a_m_seen, .int m_seenMany, .ref a_m_pointBy, .ref a_m_isKept, .ref a_m_lanes, .ref a_m_lengths, .ref a_m_sheetCells, .int m_torn])), (a_m_state, .inl (k 0, 156, .inl o12.2.2.2))]) [0, 1] (va_runV (As := [.int (104 : Int32)]) (rest := [.int v13]) ⟨hx, hb, hml, hown, hts⟩ (c_X6_pointOn l G k tL tM sK sV a_m a_m_state a_m_readPage a_m_tape a_m_cuts a_m_letters a_m_seen a_m_pointBy a_m_isKept a_m_lanes a_m_lengths a_m_sheetCells H.size m_toldOnce m_taped m_fault m_broken m_brokenAt m_spot m_here m_token m_value m_silent o12.1 o12.2.1 o12.2.2.1 m_seenMany m_torn o12.2.2.2 (104 : Int32) o14 hv) (cwV 1 hts gX6_kind_X6_pointOn rfl rfl rfl (by decide +kernel) ⟨Nat.le_of_ble_eq_true rfl, Nat.le_of_ble_eq_true rfl⟩) (z_preV (wc := [(a_m, .inr (6, [.ref a_m_state, .ref a_m_readPage, .int m_toldOnce, .ref a_m_tape, .int m_taped, .int m_fault, .int m_broken, .int m_brokenAt, .int m_spot, .int m_here, .int m_token, .int m_value, .ref a_m_cuts, .ref a_m_letters, .int m_silent, .int o12.1, .int o12.2.1, .int o12.2.2.1, .ref a_m_seen, .int m_seenMany, .ref a_m_pointBy, .ref a_m_isKept, .ref a_m_lanes, .ref a_m_lengths, .ref a_m_sheetCells, .int m_torn])), (a_m_state, .inl (k 0, 156, .inl o12.2.2.2))]) [0, 1] 0 6 hK hE hA hP hD hS (by decide) rfl rfl rfl) rfl rfl hl.1 rfl (lv_room (Nat.le_of_ble_eq_true rfl)) dX6_kind_88 ⟨Nat.le_refl _, Nat.le_refl _⟩) hA hP hD hS rfl rfl rfl rfl (fun H locs hP hD hS => ?_)
          obtain ⟨o15, hv, h⟩ := zb h
          refine z_goi (w2 := [(a_m, .inr (6, [.ref a_m_state, .ref a_m_readPage, .int m_toldOnce, .ref a_m_tape, .int m_taped, .int m_fault, .int m_broken, .int m_brokenAt, .int m_spot, .int m_here, .int m_token, .int m_value, .ref a_m_cuts, .ref a_m_letters, .int m_silent, .int o12.1, .int o12.2.1, .int o12.2.2.1, .ref a_m_seen, .int m_seenMany, .ref a_m_pointBy, .ref a_m_isKept, .ref a_m_lanes, .ref a_m_lengths, .ref a_m_sheetCells, .int m_torn])), (a_m_state, .inl (k 0, 156, .inl o12.2.2.2))]) [] (va_runS (As := [.int v13, .int o14]) (rest := []) ⟨hx, hb, hml, hown, hts⟩ (c_X6_farOf l G k tL tM sK sV H.size v13 o14 o15 hv) (va_cwS 2 hts gX6_kind_X6_farOf rfl rfl rfl (by decide +kernel) ⟨Nat.le_of_ble_eq_true rfl, Nat.le_of_ble_eq_true rfl⟩) (z_preS (wc := []) [] hK hE hA hP hD hS (by decide) rfl) rfl rfl hl.1 rfl (lv_room (Nat.le_of_ble_eq_true rfl)) dX6_kind_91 ⟨Nat.le_refl _, Nat.le_refl _⟩) hA hP hD hS rfl rfl rfl rfl (fun H locs hP hD hS => ?_)
          refine lv_istore (lv' := [(7, .int o15), (0, .ref a_m), (1, .int u1), (2, .int u2), (3, .int u3), (4, .int x4.1), (5, .int x4.2.1), (6, .int x4.2.2.1)]) hx hb dX6_kind_94 hl (by decide) rfl (fun ls hl => ?_)
          refine lv_iload hx hb dX6_kind_96 (lv_at hl 0 rfl) ?_
          refine lv_iload hx hb dX6_kind_98 (lv_at hl 5 rfl) ?_
          have hJ16 : ∀ (y17 : Int32), y17 = (if x4.1 ≤ o15 then x4.2.1 else x4.2.2.1) → zW p l e (zR 7 156) s m ([.ref a_m, .int u1, .int u2, .int u3] : List Value).toArray below meth c Q 8 A G [(a_m, .inr (6, [.ref a_m_state, .ref a_m_readPage, .int m_toldOnce, .ref a_m_tape, .int m_taped, .int m_fault, .int m_broken, .int m_brokenAt, .int m_spot, .int m_here, .int m_token, .int m_value, .ref a_m_cuts, .ref a_m_letters, .int m_silent, .int o12.1, .int o12.2.1, .int o12.2.2.1, .ref a_m_seen, .int m_seenMany, .ref a_m_pointBy, .ref a_m_isKept, .ref a_m_lanes, .ref a_m_lengths, .ref a_m_sheetCells, .int m_torn])), (a_m_state, .inl (k 0, 156, .inl o12.2.2.2))] [(0, .ref a_m), (1, .int u1), (2, .int u2), (3, .int u3), (4, .int x4.1), (6, .int x4.2.2.1), (7, .int o15)] 110 [.int y17] := by
            intro y17 q18
            subst q18
            intro H locs ls hP hD hS hl
            refine lv_istore (lv' := [(5, .int (if x4.1 ≤ o15 then x4.2.1 else x4.2.2.1)), (0, .ref a_m), (1, .int u1), (2, .int u2), (3, .int u3), (4, .int x4.1), (6, .int x4.2.2.1), (7, .int o15)]) hx hb dX6_kind_110 hl (by decide) rfl (fun ls hl => ?_)
            refine lv_iload hx hb dX6_kind_112 (lv_at hl 7 rfl) ?_
            refine lv_iload hx hb dX6_kind_114 (lv_at hl 5 rfl) ?_
            refine lv_icmp_ge (tgt := 124) hx hb dX6_kind_116 (by decide) (fun c20 => ?_) (fun c20 => ?_)
            · have h := zit c20 h
              refine lv_iload hx hb dX6_kind_124 (lv_at hl 5 rfl) ?_
              refine lv_istore (lv' := [(4, .int x4.1), (5, .int (if x4.1 ≤ o15 then x4.2.1 else x4.2.2.1)), (0, .ref a_m), (1, .int u1), (2, .int u2), (3, .int u3), (6, .int x4.2.2.1), (7, .int o15)]) hx hb dX6_kind_126 hl (by decide) rfl (fun ls hl => ?_)
              refine lv_iinc (v := x4.2.2.1 + (1 : Int32)) (lv' := [(6, .int (x4.2.2.1 + (1 : Int32))), (4, .int x4.1), (5, .int (if x4.1 ≤ o15 then x4.2.1 else x4.2.2.1)), (0, .ref a_m), (1, .int u1), (2, .int u2), (3, .int u3), (7, .int o15)]) hx hb dX6_kind_128 hl (k := 6) rfl rfl (by decide) rfl (fun ls hl => ?_)
              refine lv_goto (tgt := 42) hx hb dX6_kind_131 (by decide) ?_
              exact hC5 _ (zs h) H locs ls hP hD hS (lv_sub hl [3, 4, 5, 6, 1, 2, 0] rfl)
            · have h := zif c20 h
              refine lv_iload hx hb dX6_kind_119 (lv_at hl 7 rfl) ?_
              refine lv_goto (tgt := 126) hx hb dX6_kind_121 (by decide) ?_
              refine lv_istore (lv' := [(4, .int o15), (5, .int (if x4.1 ≤ o15 then x4.2.1 else x4.2.2.1)), (0, .ref a_m), (1, .int u1), (2, .int u2), (3, .int u3), (6, .int x4.2.2.1), (7, .int o15)]) hx hb dX6_kind_126 hl (by decide) rfl (fun ls hl => ?_)
              refine lv_iinc (v := x4.2.2.1 + (1 : Int32)) (lv' := [(6, .int (x4.2.2.1 + (1 : Int32))), (4, .int o15), (5, .int (if x4.1 ≤ o15 then x4.2.1 else x4.2.2.1)), (0, .ref a_m), (1, .int u1), (2, .int u2), (3, .int u3), (7, .int o15)]) hx hb dX6_kind_128 hl (k := 6) rfl rfl (by decide) rfl (fun ls hl => ?_)
              refine lv_goto (tgt := 42) hx hb dX6_kind_131 (by decide) ?_
              exact hC5 _ (zs h) H locs ls hP hD hS (lv_sub hl [3, 4, 5, 6, 1, 2, 0] rfl)
          refine lv_icmp_ge (tgt := 108) hx hb dX6_kind_100 (by decide) (fun c19 => ?_) (fun c19 => ?_)
          · refine lv_iload hx hb dX6_kind_108 (lv_at hl 6 rfl) ?_
            exact hJ16 _ (if_pos c19).symm H locs ls hP hD hS (lv_sub hl [1, 2, 3, 4, 5, 7, 0] rfl)
          · refine lv_iload hx hb dX6_kind_103 (lv_at hl 7 rfl) ?_
            refine lv_goto (tgt := 110) hx hb dX6_kind_105 (by decide) ?_
            exact hJ16 _ (if_neg c19).symm H locs ls hP hD hS (lv_sub hl [1, 2, 3, 4, 5, 7, 0] rfl)
      · have h := zit c23 h
        refine lv_iconst (v := (-1)) hx hb dX6_kind_30 (by decide) ?_
        have hr := (zs h)
        subst hr
        exact hret H locs ls 31 hP hS dX6_kind_31
theorem iw_X6_byCalm_X6 : ∀ w ∈ wsX60, w ∈ wsX6_byCalm := fun _ h => List.mem_cons_of_mem _ (List.mem_append_right _ h)
set_option maxHeartbeats 4000000 in
set_option maxRecDepth 100000 in
theorem c_X6_byCalm (l : Launch) (G : va_G) (k : Nat → ClassId) (tL tM : Nat) (sK sV : Nat → Nat) (a_m : Nat) (a_m_state : Nat) (a_m_readPage : Nat) (a_m_tape : Nat) (a_m_cuts : Nat) (a_m_letters : Nat) (a_m_seen : Nat) (a_m_pointBy : Nat) (a_m_isKept : Nat) (a_m_lanes : Nat) (a_m_lengths : Nat) (a_m_sheetCells : Nat) (sz : Nat) (m_toldOnce : Int32) (m_taped : Int32) (m_fault : Int32) (m_broken : Int32) (m_brokenAt : Int32) (m_spot : Int32) (m_here : Int32) (m_token : Int32) (m_value : Int32) (m_silent : Int32) (m_greatest : Int32) (m_moves : Int32) (m_holders : Int32) (m_seenMany : Int32) (m_torn : Int32) (m_state : Nat → Int32) (u1 : Int32) (u2 : Int32) (u3 : Int32) (u4 : Int32) (out : Int64 × (Nat → Int32)) (h : p_X6_byCalm u1 u2 u3 u4 m_silent m_state = some out) : zMl l yX6_byCalm wsX6_byCalm 6 131 G k tL tM sK sV [.ref a_m, .int u1, .int u2, .int u3, .int u4] [(a_m, .inr (6, [.ref a_m_state, .ref a_m_readPage, .int m_toldOnce, .ref a_m_tape, .int m_taped, .int m_fault, .int m_broken, .int m_brokenAt, .int m_spot, .int m_here, .int m_token, .int m_value, .ref a_m_cuts, .ref a_m_letters, .int m_silent, .int m_greatest, .int m_moves, .int m_holders, .ref a_m_seen, .int m_seenMany, .ref a_m_pointBy, .ref a_m_isKept, .ref a_m_lanes, .ref a_m_lengths, .ref a_m_sheetCells, .int m_torn])), (a_m_state, .inl (k 0, 156, .inl m_state))] [(a_m, .inr (6, [.ref a_m_state, .ref a_m_readPage, .int m_toldOnce, .ref a_m_tape, .int m_taped, .int m_fault, .int m_broken, .int m_brokenAt, .int m_spot, .int m_here, .int m_token, .int m_value, .ref a_m_cuts, .ref a_m_letters, .int m_silent, .int m_greatest, .int m_moves, .int m_holders, .ref a_m_seen, .int m_seenMany, .ref a_m_pointBy, .ref a_m_isKept, .ref a_m_lanes, .ref a_m_lengths, .ref a_m_sheetCells, .int m_torn])), (a_m_state, .inl (k 0, 156, .inl out.2))] out.1 sz := by
  refine z_metl (cc := cX6_byCalm) (maxL := 13) (by decide) rfl (Nat.le_of_ble_eq_true rfl) ?_
  intro p e s m below meth c A Q H locs ls hx hb hml hts hown hA hK hE hret hP hD hS hl
  have hown : s.vm.findClass RX6 = some m.cls := hown
  have hl : lv_has ls 13 [(0, .ref a_m), (1, .int u1), (2, .int u2), (3, .int u3), (4, .int u4)] := hl
  unfold p_X6_byCalm at h
  refine lv_lconst (v := 0) hx hb dX6_byCalm_0 (by decide) ?_
  refine lv_lstore (lv' := [(5, .long (0 : Int64)), (0, .ref a_m), (1, .int u1), (2, .int u2), (3, .int u3), (4, .int u4)]) hx hb dX6_byCalm_1 hl (by decide) rfl (fun ls hl => ?_)
  refine lv_lconst (v := 1) hx hb dX6_byCalm_3 (by decide) ?_
  refine lv_lstore (lv' := [(7, .long (1 : Int64)), (5, .long (0 : Int64)), (0, .ref a_m), (1, .int u1), (2, .int u2), (3, .int u3), (4, .int u4)]) hx hb dX6_byCalm_4 hl (by decide) rfl (fun ls hl => ?_)
  refine lv_iconst (v := 0) hx hb dX6_byCalm_6 (by decide) ?_
  refine lv_istore (lv' := [(9, .int (0 : Int32)), (7, .long (1 : Int64)), (5, .long (0 : Int64)), (0, .ref a_m), (1, .int u1), (2, .int u2), (3, .int u3), (4, .int u4)]) hx hb dX6_byCalm_7 hl (by decide) rfl (fun ls hl => ?_)
  obtain ⟨e5, hv, h⟩ := zb h
  have hJ4 : ∀ (e5_ : Int64), e5_ = e5 → zW p l e (zR 6 131) s m ([.ref a_m, .int u1, .int u2, .int u3, .int u4] : List Value).toArray below meth c Q 13 A G [(a_m, .inr (6, [.ref a_m_state, .ref a_m_readPage, .int m_toldOnce, .ref a_m_tape, .int m_taped, .int m_fault, .int m_broken, .int m_brokenAt, .int m_spot, .int m_here, .int m_token, .int m_value, .ref a_m_cuts, .ref a_m_letters, .int m_silent, .int m_greatest, .int m_moves, .int m_holders, .ref a_m_seen, .int m_seenMany, .ref a_m_pointBy, .ref a_m_isKept, .ref a_m_lanes, .ref a_m_lengths, .ref a_m_sheetCells, .int m_torn])), (a_m_state, .inl (k 0, 156, .inl m_state))] [(0, .ref a_m), (1, .int u1), (2, .int u2), (3, .int u3), (4, .int u4), (5, .long (0 : Int64)), (7, .long e5_)] 29 [] := by
    intro e5_ hz
    subst hz
    intro H locs ls hP hD hS hl
    refine lv_iconst (v := 0) hx hb dX6_byCalm_29 (by decide) ?_
    refine lv_istore (lv' := [(9, .int (0 : Int32)), (0, .ref a_m), (1, .int u1), (2, .int u2), (3, .int u3), (4, .int u4), (5, .long (0 : Int64)), (7, .long e5_)]) hx hb dX6_byCalm_30 hl (by decide) rfl (fun ls hl => ?_)
    obtain ⟨e12, hv, h⟩ := zb h
    have hJ11 : ∀ (e12_ : Int64 × (Nat → Int32)), e12_ = e12 → zW p l e (zR 6 131) s m ([.ref a_m, .int u1, .int u2, .int u3, .int u4] : List Value).toArray below meth c Q 13 A G [(a_m, .inr (6, [.ref a_m_state, .ref a_m_readPage, .int m_toldOnce, .ref a_m_tape, .int m_taped, .int m_fault, .int m_broken, .int m_brokenAt, .int m_spot, .int m_here, .int m_token, .int m_value, .ref a_m_cuts, .ref a_m_letters, .int m_silent, .int m_greatest, .int m_moves, .int m_holders, .ref a_m_seen, .int m_seenMany, .ref a_m_pointBy, .ref a_m_isKept, .ref a_m_lanes, .ref a_m_lengths, .ref a_m_sheetCells, .int m_torn])), (a_m_state, .inl (k 0, 156, .inl e12_.2))] [(4, .int u4), (5, .long e12_.1), (7, .long e5_)] 159 [] := by
      intro e12_ hz
      subst hz
      intro H locs ls hP hD hS hl
      refine lv_lload hx hb dX6_byCalm_159 (lv_at hl 1 rfl) ?_
      refine lv_lload hx hb dX6_byCalm_161 (lv_at hl 2 rfl) ?_
      refine lv_iload hx hb dX6_byCalm_163 (lv_at hl 0 rfl) ?_
      obtain ⟨o31, hv, h⟩ := zb h
      refine z_gol (w2 := [(a_m, .inr (6, [.ref a_m_state, .ref a_m_readPage, .int m_toldOnce, .ref a_m_tape, .int m_taped, .int m_fault, .int m_broken, .int m_brokenAt, .int m_spot, .int m_here, .int m_token, .int m_value, .ref a_m_cuts, .ref a_m_letters, .int m_silent, .int m_greatest, .int m_moves, .int m_holders, .ref a_m_seen, .int m_seenMany, .ref a_m_pointBy, .ref a_m_isKept, .ref a_m_lanes, .ref a_m_lengths, .ref a_m_sheetCells, .int m_torn])), (a_m_state, .inl (k 0, 156, .inl e12_.2))]) [] (va_runS (As := [.long e12_.1, .long e5_, .int u4]) (rest := []) ⟨hx, hb, hml, hown, hts⟩ (c_X6_lowest l G k tL tM sK sV H.size e12_.1 e5_ u4 o31 hv) (va_cwS 3 hts gX6_byCalm_X6_lowest rfl rfl rfl (by decide +kernel) ⟨Nat.le_of_ble_eq_true rfl, Nat.le_of_ble_eq_true rfl⟩) (z_preS (wc := []) [] hK hE hA hP hD hS (by decide) rfl) rfl rfl hl.1 rfl (lv_room (Nat.le_of_ble_eq_true rfl)) dX6_byCalm_165 ⟨Nat.le_refl _, Nat.le_refl _⟩) hA hP hD hS rfl rfl rfl rfl (fun H locs hP hD hS => ?_)
      have hr := (zs h)
      subst hr
      exact hret H locs ls 168 hP hS dX6_byCalm_168
    refine z_lpW (Wh := fun (x8 : Int64 × Int32 × (Nat → Int32)) => zW p l e (zR 6 131) s m ([.ref a_m, .int u1, .int u2, .int u3, .int u4] : List Value).toArray below meth c Q 13 A G [(a_m, .inr (6, [.ref a_m_state, .ref a_m_readPage, .int m_toldOnce, .ref a_m_tape, .int m_taped, .int m_fault, .int m_broken, .int m_brokenAt, .int m_spot, .int m_here, .int m_token, .int m_value, .ref a_m_cuts, .ref a_m_letters, .int m_silent, .int m_greatest, .int m_moves, .int m_holders, .ref a_m_seen, .int m_seenMany, .ref a_m_pointBy, .ref a_m_isKept, .ref a_m_lanes, .ref a_m_lengths, .ref a_m_sheetCells, .int m_torn])), (a_m_state, .inl (k 0, 156, .inl x8.2.2))] [(0, .ref a_m), (1, .int u1), (2, .int u2), (3, .int u3), (4, .int u4), (5, .long x8.1), (7, .long e5_), (9, .int x8.2.1)] 32 []) ?_ 1000 _ hv H locs ls hP hD hS (lv_sub hl [1, 2, 3, 4, 5, 6, 7, 0] rfl)
    clear h
    intro x8 o h hC9 hX10 H locs ls hP hD hS hl
    unfold p_X6_byCalm_b32 at h
    refine lv_iload hx hb dX6_byCalm_32 (lv_at hl 7 rfl) ?_
    refine lv_iconst (v := 1) hx hb dX6_byCalm_34 (by decide) ?_
    refine lv_iload_n hx hb dX6_byCalm_35 rfl (lv_at hl 3 rfl) ?_
    refine lv_ishl hx hb dX6_byCalm_36 ?_
    refine lv_icmp_ge (tgt := 159) hx hb dX6_byCalm_37 (by decide) (fun c30 => ?_) (fun c30 => ?_)
    · have h := zit c30 h
      exact hJ11 _ (hX10 _ (zs h)) H locs ls hP hD hS (lv_sub hl [4, 5, 6] rfl)
    · have h := zif c30 h
      refine lv_lconst (v := 1) hx hb dX6_byCalm_40 (by decide) ?_
      refine lv_lstore (lv' := [(10, .long (1 : Int64)), (0, .ref a_m), (1, .int u1), (2, .int u2), (3, .int u3), (4, .int u4), (5, .long x8.1), (7, .long e5_), (9, .int x8.2.1)]) hx hb dX6_byCalm_41 hl (by decide) rfl (fun ls hl => ?_)
      refine lv_aload_n hx hb dX6_byCalm_43 rfl (lv_at hl 1 rfl) ?_
      refine lv_iconst (v := 0) hx hb dX6_byCalm_44 (by decide) ?_
      refine lv_bipush (v := 104) hx hb dX6_byCalm_45 (by decide) ?_
      obtain ⟨o14, hv, h⟩ := zb h
      refine z_gov (w2 := [(a_m, .inr (6, [.ref a_m_state, .ref a_m_readPage, .int m_toldOnce, .ref a_m_tape, .int m_taped, .int m_fault, .int m_broken, .int m_brokenAt, .int m_spot, .int m_here, .int m_token, .int m_value, .ref a_m_cuts, .ref a_m_letters, .int m_silent, .int m_greatest, .int m_moves, .int m_holders, .ref a_m_seen, .int m_seenMany, .ref a_m_pointBy, .ref a_m_isKept, .ref a_m_lanes, .ref a_m_lengths, .ref a_m_sheetCells, .int m_torn])), (a_m_state, .inl (k 0, 156, .inl o14))]) [0, 1] (va_runV (As := [.int (0 : Int32), .int (104 : Int32)]) (rest := []) ⟨hx, hb, hml, hown, hts⟩ (c_X6_copies l G k tL tM sK sV a_m a_m_state a_m_readPage a_m_tape a_m_cuts a_m_letters a_m_seen a_m_pointBy a_m_isKept a_m_lanes a_m_lengths a_m_sheetCells H.size m_toldOnce m_taped m_fault m_broken m_brokenAt m_spot m_here m_token m_value m_silent m_greatest m_moves m_holders m_seenMany m_torn x8.2.2 (0 : Int32) (104 : Int32) o14 hv) (cwV 2 hts gX6_byCalm_X6_copies rfl rfl rfl (by decide +kernel) ⟨Nat.le_of_ble_eq_true rfl, Nat.le_of_ble_eq_true rfl⟩) (z_preV (wc := [(a_m, .inr (6, [.ref a_m_state, .ref a_m_readPage, .int m_toldOnce, .ref a_m_tape, .int m_taped, .int m_fault, .int m_broken, .int m_brokenAt, .int m_spot, .int m_here, .int m_token, .int m_value, .ref a_m_cuts, .ref a_m_letters, .int m_silent, .int m_greatest, .int m_moves, .int m_holders, .ref a_m_seen, .int m_seenMany, .ref a_m_pointBy, .ref a_m_isKept, .ref a_m_lanes, .ref a_m_lengths, .ref a_m_sheetCells, .int m_torn])), (a_m_state, .inl (k 0, 156, .inl x8.2.2))]) [0, 1] 0 6 hK hE hA hP hD hS (by decide) rfl rfl rfl) rfl rfl hl.1 rfl (lv_room (Nat.le_of_ble_eq_true rfl)) dX6_byCalm_47 ⟨Nat.le_refl _, Nat.le_refl _⟩) hA hP hD hS rfl rfl rfl rfl (fun H locs hP hD hS => ?_)
      refine lv_iconst (v := 0) hx hb dX6_byCalm_50 (by decide) ?_
      refine lv_istore (lv' := [(12, .int (0 : Int32)), (10, .long (1 : Int64)), (0, .ref a_m), (1, .int u1), (2, .int u2), (3, .int u3), (4, .int u4), (5, .long x8.1), (7, .long e5_), (9, .int x8.2.1)]) hx hb dX6_byCalm_51 hl (by decide) rfl (fun ls hl => ?_)
      obtain ⟨e19, hv, h⟩ := zb h
      have hJ18 : ∀ (e19_ : Int64 × (Nat → Int32)), e19_ = e19 → zW p l e (zR 6 131) s m ([.ref a_m, .int u1, .int u2, .int u3, .int u4] : List Value).toArray below meth c Q 13 A G [(a_m, .inr (6, [.ref a_m_state, .ref a_m_readPage, .int m_toldOnce, .ref a_m_tape, .int m_taped, .int m_fault, .int m_broken, .int m_brokenAt, .int m_spot, .int m_here, .int m_token, .int m_value, .ref a_m_cuts, .ref a_m_letters, .int m_silent, .int m_greatest, .int m_moves, .int m_holders, .ref a_m_seen, .int m_seenMany, .ref a_m_pointBy, .ref a_m_isKept, .ref a_m_lanes, .ref a_m_lengths, .ref a_m_sheetCells, .int m_torn])), (a_m_state, .inl (k 0, 156, .inl e19_.2))] [(0, .ref a_m), (1, .int u1), (2, .int u2), (3, .int u3), (4, .int u4), (5, .long x8.1), (7, .long e5_), (9, .int x8.2.1), (10, .long e19_.1)] 114 [] := by
        intro e19_ hz
        subst hz
        intro H locs ls hP hD hS hl
        refine lv_lload hx hb dX6_byCalm_114 (lv_at hl 5 rfl) ?_
        refine lv_lload hx hb dX6_byCalm_116 (lv_at hl 8 rfl) ?_
        refine lv_iload_n hx hb dX6_byCalm_118 rfl (lv_at hl 2 rfl) ?_
        refine lv_bipush (v := (-4)) hx hb dX6_byCalm_119 (by decide) ?_
        refine lv_icmp_ne (tgt := 133) hx hb dX6_byCalm_121 (by decide) (fun c29 => ?_) (fun c29 => ?_)
        · have h := zif c29 h
          refine lv_aload_n hx hb dX6_byCalm_133 rfl (lv_at hl 0 rfl) ?_
          refine lv_bipush (v := 104) hx hb dX6_byCalm_134 (by decide) ?_
          obtain ⟨o26, hv, h⟩ := zb h
          refine z_goi (w2 := [(a_m, .inr (6, [.ref a_m_state, .ref a_m_readPage, .int m_toldOnce, .ref a_m_tape, .int m_taped, .int m_fault, .int m_broken, .int m_brokenAt, .int m_spot, .int m_here, .int m_token, .int m_value, .ref a_m_cuts, .ref a_m_letters, .int m_silent, .int m_greatest, .int m_moves, .int m_holders, .ref a_m_seen, .int m_seenMany, .ref a_m_pointBy, .ref a_m_isKept, .ref a_m_lanes, .ref a_m_lengths, .ref a_m_sheetCells, .int m_torn])), (a_m_state, .inl (k 0, 156, .inl e19_.2))]) [0, 1] (va_runV (As := [.int (104 : Int32)]) (rest := [.long e19_.1, .long x8.1]) ⟨hx, hb, hml, hown, hts⟩ (c_X6_pointOn l G k tL tM sK sV a_m a_m_state a_m_readPage a_m_tape a_m_cuts a_m_letters a_m_seen a_m_pointBy a_m_isKept a_m_lanes a_m_lengths a_m_sheetCells H.size m_toldOnce m_taped m_fault m_broken m_brokenAt m_spot m_here m_token m_value m_silent m_greatest m_moves m_holders m_seenMany m_torn e19_.2 (104 : Int32) o26 hv) (cwV 1 hts gX6_byCalm_X6_pointOn rfl rfl rfl (by decide +kernel) ⟨Nat.le_of_ble_eq_true rfl, Nat.le_of_ble_eq_true rfl⟩) (z_preV (wc := [(a_m, .inr (6, [.ref a_m_state, .ref a_m_readPage, .int m_toldOnce, .ref a_m_tape, .int m_taped, .int m_fault, .int m_broken, .int m_brokenAt, .int m_spot, .int m_here, .int m_token, .int m_value, .ref a_m_cuts, .ref a_m_letters, .int m_silent, .int m_greatest, .int m_moves, .int m_holders, .ref a_m_seen, .int m_seenMany, .ref a_m_pointBy, .ref a_m_isKept, .ref a_m_lanes, .ref a_m_lengths, .ref a_m_sheetCells, .int m_torn])), (a_m_state, .inl (k 0, 156, .inl e19_.2))]) [0, 1] 0 6 hK hE hA hP hD hS (by decide) rfl rfl rfl) rfl rfl hl.1 rfl (lv_room (Nat.le_of_ble_eq_true rfl)) dX6_byCalm_136 ⟨Nat.le_refl _, Nat.le_refl _⟩) hA hP hD hS rfl rfl rfl rfl (fun H locs hP hD hS => ?_)
          refine lv_iload_n hx hb dX6_byCalm_139 rfl (lv_at hl 2 rfl) ?_
          refine lv_icmp_ne (tgt := 147) hx hb dX6_byCalm_140 (by decide) (fun c27 => ?_) (fun c27 => ?_)
          · have h := zif c27 h
            refine lv_iconst (v := 0) hx hb dX6_byCalm_147 (by decide) ?_
            refine lv_i2l (v := (0 : Int32).toInt64) hx hb dX6_byCalm_148 rfl ?_
            refine lv_lmul hx hb dX6_byCalm_149 ?_
            refine lv_ladd hx hb dX6_byCalm_150 ?_
            refine lv_lstore (lv' := [(5, .long (x8.1 + (e19_.1 * ((0 : Int32).toInt64)))), (0, .ref a_m), (1, .int u1), (2, .int u2), (3, .int u3), (4, .int u4), (7, .long e5_), (9, .int x8.2.1), (10, .long e19_.1)]) hx hb dX6_byCalm_151 hl (by decide) rfl (fun ls hl => ?_)
            refine lv_iinc (v := x8.2.1 + (1 : Int32)) (lv' := [(9, .int (x8.2.1 + (1 : Int32))), (5, .long (x8.1 + (e19_.1 * ((0 : Int32).toInt64)))), (0, .ref a_m), (1, .int u1), (2, .int u2), (3, .int u3), (4, .int u4), (7, .long e5_), (10, .long e19_.1)]) hx hb dX6_byCalm_153 hl (k := 7) rfl rfl (by decide) rfl (fun ls hl => ?_)
            refine lv_goto (tgt := 32) hx hb dX6_byCalm_156 (by decide) ?_
            exact hC9 _ (zs h) H locs ls hP hD hS (lv_sub hl [2, 3, 4, 5, 6, 1, 7, 0] rfl)
          · have h := zit c27 h
            refine lv_iconst (v := 1) hx hb dX6_byCalm_143 (by decide) ?_
            refine lv_goto (tgt := 148) hx hb dX6_byCalm_144 (by decide) ?_
            refine lv_i2l (v := (1 : Int32).toInt64) hx hb dX6_byCalm_148 rfl ?_
            refine lv_lmul hx hb dX6_byCalm_149 ?_
            refine lv_ladd hx hb dX6_byCalm_150 ?_
            refine lv_lstore (lv' := [(5, .long (x8.1 + (e19_.1 * ((1 : Int32).toInt64)))), (0, .ref a_m), (1, .int u1), (2, .int u2), (3, .int u3), (4, .int u4), (7, .long e5_), (9, .int x8.2.1), (10, .long e19_.1)]) hx hb dX6_byCalm_151 hl (by decide) rfl (fun ls hl => ?_)
            refine lv_iinc (v := x8.2.1 + (1 : Int32)) (lv' := [(9, .int (x8.2.1 + (1 : Int32))), (5, .long (x8.1 + (e19_.1 * ((1 : Int32).toInt64)))), (0, .ref a_m), (1, .int u1), (2, .int u2), (3, .int u3), (4, .int u4), (7, .long e5_), (10, .long e19_.1)]) hx hb dX6_byCalm_153 hl (k := 7) rfl rfl (by decide) rfl (fun ls hl => ?_)
            refine lv_goto (tgt := 32) hx hb dX6_byCalm_156 (by decide) ?_
            exact hC9 _ (zs h) H locs ls hP hD hS (lv_sub hl [2, 3, 4, 5, 6, 1, 7, 0] rfl)
        · have h := zit c29 h
          refine lv_aload_n hx hb dX6_byCalm_124 rfl (lv_at hl 0 rfl) ?_
          refine lv_bipush (v := 104) hx hb dX6_byCalm_125 (by decide) ?_
          obtain ⟨o28, hv, h⟩ := zb h
          refine z_goi (w2 := [(a_m, .inr (6, [.ref a_m_state, .ref a_m_readPage, .int m_toldOnce, .ref a_m_tape, .int m_taped, .int m_fault, .int m_broken, .int m_brokenAt, .int m_spot, .int m_here, .int m_token, .int m_value, .ref a_m_cuts, .ref a_m_letters, .int m_silent, .int m_greatest, .int m_moves, .int m_holders, .ref a_m_seen, .int m_seenMany, .ref a_m_pointBy, .ref a_m_isKept, .ref a_m_lanes, .ref a_m_lengths, .ref a_m_sheetCells, .int m_torn])), (a_m_state, .inl (k 0, 156, .inl e19_.2))]) [0, 1] (va_runV (As := [.int (104 : Int32)]) (rest := [.long e19_.1, .long x8.1]) ⟨hx, hb, hml, hown, hts⟩ (c_X6_leanOn l G k tL tM sK sV a_m a_m_state a_m_readPage a_m_tape a_m_cuts a_m_letters a_m_seen a_m_pointBy a_m_isKept a_m_lanes a_m_lengths a_m_sheetCells H.size m_toldOnce m_taped m_fault m_broken m_brokenAt m_spot m_here m_token m_value m_silent m_greatest m_moves m_holders m_seenMany m_torn e19_.2 (104 : Int32) o28 hv) (cwV 1 hts gX6_byCalm_X6_leanOn rfl rfl rfl (by decide +kernel) ⟨Nat.le_of_ble_eq_true rfl, Nat.le_of_ble_eq_true rfl⟩) (z_preV (wc := [(a_m, .inr (6, [.ref a_m_state, .ref a_m_readPage, .int m_toldOnce, .ref a_m_tape, .int m_taped, .int m_fault, .int m_broken, .int m_brokenAt, .int m_spot, .int m_here, .int m_token, .int m_value, .ref a_m_cuts, .ref a_m_letters, .int m_silent, .int m_greatest, .int m_moves, .int m_holders, .ref a_m_seen, .int m_seenMany, .ref a_m_pointBy, .ref a_m_isKept, .ref a_m_lanes, .ref a_m_lengths, .ref a_m_sheetCells, .int m_torn])), (a_m_state, .inl (k 0, 156, .inl e19_.2))]) [0, 1] 0 6 hK hE hA hP hD hS (by decide) rfl rfl rfl) rfl rfl hl.1 rfl (lv_room (Nat.le_of_ble_eq_true rfl)) dX6_byCalm_127 ⟨Nat.le_refl _, Nat.le_refl _⟩) hA hP hD hS rfl rfl rfl rfl (fun H locs hP hD hS => ?_)
          refine lv_goto (tgt := 148) hx hb dX6_byCalm_130 (by decide) ?_
          refine lv_i2l (v := o28.toInt64) hx hb dX6_byCalm_148 rfl ?_
          refine lv_lmul hx hb dX6_byCalm_149 ?_
          refine lv_ladd hx hb dX6_byCalm_150 ?_
          refine lv_lstore (lv' := [(5, .long (x8.1 + (e19_.1 * o28.toInt64))), (0, .ref a_m), (1, .int u1), (2, .int u2), (3, .int u3), (4, .int u4), (7, .long e5_), (9, .int x8.2.1), (10, .long e19_.1)]) hx hb dX6_byCalm_151 hl (by decide) rfl (fun ls hl => ?_)
          refine lv_iinc (v := x8.2.1 + (1 : Int32)) (lv' := [(9, .int (x8.2.1 + (1 : Int32))), (5, .long (x8.1 + (e19_.1 * o28.toInt64))), (0, .ref a_m), (1, .int u1), (2, .int u2), (3, .int u3), (4, .int u4), (7, .long e5_), (10, .long e19_.1)]) hx hb dX6_byCalm_153 hl (k := 7) rfl rfl (by decide) rfl (fun ls hl => ?_)
          refine lv_goto (tgt := 32) hx hb dX6_byCalm_156 (by decide) ?_
          exact hC9 _ (zs h) H locs ls hP hD hS (lv_sub hl [2, 3, 4, 5, 6, 1, 7, 0] rfl)
      refine z_lpW (Wh := fun (x15 : Int64 × Int32 × (Nat → Int32)) => zW p l e (zR 6 131) s m ([.ref a_m, .int u1, .int u2, .int u3, .int u4] : List Value).toArray below meth c Q 13 A G [(a_m, .inr (6, [.ref a_m_state, .ref a_m_readPage, .int m_toldOnce, .ref a_m_tape, .int m_taped, .int m_fault, .int m_broken, .int m_brokenAt, .int m_spot, .int m_here, .int m_token, .int m_value, .ref a_m_cuts, .ref a_m_letters, .int m_silent, .int m_greatest, .int m_moves, .int m_holders, .ref a_m_seen, .int m_seenMany, .ref a_m_pointBy, .ref a_m_isKept, .ref a_m_lanes, .ref a_m_lengths, .ref a_m_sheetCells, .int m_torn])), (a_m_state, .inl (k 0, 156, .inl x15.2.2))] [(0, .ref a_m), (1, .int u1), (2, .int u2), (3, .int u3), (4, .int u4), (5, .long x8.1), (7, .long e5_), (9, .int x8.2.1), (10, .long x15.1), (12, .int x15.2.1)] 53 []) ?_ 1000 _ hv H locs ls hP hD hS (lv_sub hl [2, 3, 4, 5, 6, 7, 8, 9, 1, 0] rfl)
      clear h
      intro x15 o h hC16 hX17 H locs ls hP hD hS hl
      unfold p_X6_byCalm_b53 at h
      refine lv_iload hx hb dX6_byCalm_53 (lv_at hl 9 rfl) ?_
      refine lv_iload_n hx hb dX6_byCalm_55 rfl (lv_at hl 3 rfl) ?_
      refine lv_icmp_ge (tgt := 114) hx hb dX6_byCalm_56 (by decide) (fun c25 => ?_) (fun c25 => ?_)
      · have h := zit c25 h
        exact hJ18 _ (hX17 _ (zs h)) H locs ls hP hD hS (lv_sub hl [0, 1, 2, 3, 4, 5, 6, 7, 8] rfl)
      · have h := zif c25 h
        refine lv_iload hx hb dX6_byCalm_59 (lv_at hl 7 rfl) ?_
        refine lv_iload hx hb dX6_byCalm_61 (lv_at hl 9 rfl) ?_
        refine lv_ishr hx hb dX6_byCalm_63 ?_
        refine lv_iconst (v := 1) hx hb dX6_byCalm_64 (by decide) ?_
        refine lv_iand hx hb dX6_byCalm_65 ?_
        refine lv_iconst (v := 1) hx hb dX6_byCalm_66 (by decide) ?_
        refine lv_icmp_ne (tgt := 92) hx hb dX6_byCalm_67 (by decide) (fun c24 => ?_) (fun c24 => ?_)
        · have h := zif c24 h
          refine lv_lload hx hb dX6_byCalm_92 (lv_at hl 8 rfl) ?_
          refine lv_bipush (v := 10) hx hb dX6_byCalm_94 (by decide) ?_
          refine lv_iload_n hx hb dX6_byCalm_96 rfl (lv_at hl 1 rfl) ?_
          refine lv_isub hx hb dX6_byCalm_97 ?_
          refine lv_i2l (v := ((10 : Int32) - u1).toInt64) hx hb dX6_byCalm_98 rfl ?_
          refine lv_lmul hx hb dX6_byCalm_99 ?_
          refine lv_lstore (lv' := [(10, .long (x15.1 * (((10 : Int32) - u1).toInt64))), (0, .ref a_m), (1, .int u1), (2, .int u2), (3, .int u3), (4, .int u4), (5, .long x8.1), (7, .long e5_), (9, .int x8.2.1), (12, .int x15.2.1)]) hx hb dX6_byCalm_100 hl (by decide) rfl (fun ls hl => ?_)
          refine lv_aload_n hx hb dX6_byCalm_102 rfl (lv_at hl 1 rfl) ?_
          refine lv_bipush (v := 104) hx hb dX6_byCalm_103 (by decide) ?_
          obtain ⟨o21, hv, h⟩ := zb h
          refine z_gov (w2 := [(a_m, .inr (6, [.ref a_m_state, .ref a_m_readPage, .int m_toldOnce, .ref a_m_tape, .int m_taped, .int m_fault, .int m_broken, .int m_brokenAt, .int m_spot, .int m_here, .int m_token, .int m_value, .ref a_m_cuts, .ref a_m_letters, .int m_silent, .int m_greatest, .int m_moves, .int m_holders, .ref a_m_seen, .int m_seenMany, .ref a_m_pointBy, .ref a_m_isKept, .ref a_m_lanes, .ref a_m_lengths, .ref a_m_sheetCells, .int m_torn])), (a_m_state, .inl (k 0, 156, .inl o21))]) [0, 1] (va_runV (As := [.int (104 : Int32)]) (rest := []) ⟨hx, hb, hml, hown, hts⟩ (c_X6_yearOn l G k tL tM sK sV a_m a_m_state a_m_readPage a_m_tape a_m_cuts a_m_letters a_m_seen a_m_pointBy a_m_isKept a_m_lanes a_m_lengths a_m_sheetCells H.size m_toldOnce m_taped m_fault m_broken m_brokenAt m_spot m_here m_token m_value m_silent m_greatest m_moves m_holders m_seenMany m_torn x15.2.2 (104 : Int32) o21 hv) (cwV 1 hts gX6_byCalm_X6_yearOn rfl rfl rfl (by decide +kernel) ⟨Nat.le_of_ble_eq_true rfl, Nat.le_of_ble_eq_true rfl⟩) (z_preV (wc := [(a_m, .inr (6, [.ref a_m_state, .ref a_m_readPage, .int m_toldOnce, .ref a_m_tape, .int m_taped, .int m_fault, .int m_broken, .int m_brokenAt, .int m_spot, .int m_here, .int m_token, .int m_value, .ref a_m_cuts, .ref a_m_letters, .int m_silent, .int m_greatest, .int m_moves, .int m_holders, .ref a_m_seen, .int m_seenMany, .ref a_m_pointBy, .ref a_m_isKept, .ref a_m_lanes, .ref a_m_lengths, .ref a_m_sheetCells, .int m_torn])), (a_m_state, .inl (k 0, 156, .inl x15.2.2))]) [0, 1] 0 6 hK hE hA hP hD hS (by decide) rfl rfl rfl) rfl rfl hl.1 rfl (lv_room (Nat.le_of_ble_eq_true rfl)) dX6_byCalm_105 ⟨Nat.le_refl _, Nat.le_refl _⟩) hA hP hD hS rfl rfl rfl rfl (fun H locs hP hD hS => ?_)
          refine lv_iinc (v := x15.2.1 + (1 : Int32)) (lv' := [(12, .int (x15.2.1 + (1 : Int32))), (10, .long (x15.1 * (((10 : Int32) - u1).toInt64))), (0, .ref a_m), (1, .int u1), (2, .int u2), (3, .int u3), (4, .int u4), (5, .long x8.1), (7, .long e5_), (9, .int x8.2.1)]) hx hb dX6_byCalm_108 hl (k := 9) rfl rfl (by decide) rfl (fun ls hl => ?_)
          refine lv_goto (tgt := 53) hx hb dX6_byCalm_111 (by decide) ?_
          exact hC16 _ (zs h) H locs ls hP hD hS (lv_sub hl [2, 3, 4, 5, 6, 7, 8, 9, 1, 0] rfl)
        · have h := zit c24 h
          refine lv_lload hx hb dX6_byCalm_70 (lv_at hl 8 rfl) ?_
          refine lv_iload_n hx hb dX6_byCalm_72 rfl (lv_at hl 1 rfl) ?_
          refine lv_i2l (v := u1.toInt64) hx hb dX6_byCalm_73 rfl ?_
          refine lv_lmul hx hb dX6_byCalm_74 ?_
          refine lv_lstore (lv' := [(10, .long (x15.1 * u1.toInt64)), (0, .ref a_m), (1, .int u1), (2, .int u2), (3, .int u3), (4, .int u4), (5, .long x8.1), (7, .long e5_), (9, .int x8.2.1), (12, .int x15.2.1)]) hx hb dX6_byCalm_75 hl (by decide) rfl (fun ls hl => ?_)
          refine lv_aload_n hx hb dX6_byCalm_77 rfl (lv_at hl 1 rfl) ?_
          refine va_get (D := G) (ci := 6) (v := .ref a_m_state) (C := RX6) (T := TX6) (N := 26) hx hb hts iw_X6_byCalm_X6 hown hK hP 0 rfl rfl 0 (by decide) (hts (.fieldLink RX6 7 "SpireLeanModel" "state" "[I") (List.mem_of_getElem? (i := 2) rfl)) (fun _ h9 => h9) rfl dX6_byCalm_78 ?_
          refine lv_sipush (v := 129) hx hb dX6_byCalm_81 (by decide) ?_
          refine lv_dup2_11 hx hb dX6_byCalm_84 rfl rfl ?_
          obtain ⟨v22, hv, h⟩ := zb h
          refine z_iald hx hb hK hP 1 0 rfl rfl hv dX6_byCalm_85 ?_
          refine lv_iconst (v := 1) hx hb dX6_byCalm_86 (by decide) ?_
          refine lv_iadd hx hb dX6_byCalm_87 ?_
          obtain ⟨v23, hv, h⟩ := zb h
          refine z_iast hx hb hK hP hD hS 1 0 rfl rfl hv dX6_byCalm_88 (fun H locs hP hD hS => ?_)
          have hP : va_P G vwCl [(a_m, .inr (6, [.ref a_m_state, .ref a_m_readPage, .int m_toldOnce, .ref a_m_tape, .int m_taped, .int m_fault, .int m_broken, .int m_brokenAt, .int m_spot, .int m_here, .int m_token, .int m_value, .ref a_m_cuts, .ref a_m_letters, .int m_silent, .int m_greatest, .int m_moves, .int m_holders, .ref a_m_seen, .int m_seenMany, .ref a_m_pointBy, .ref a_m_isKept, .ref a_m_lanes, .ref a_m_lengths, .ref a_m_sheetCells, .int m_torn])), (a_m_state, .inl (k 0, 156, .inl v23))] H := hP
          have hD : va_D A [(a_m, .inr (6, [.ref a_m_state, .ref a_m_readPage, .int m_toldOnce, .ref a_m_tape, .int m_taped, .int m_fault, .int m_broken, .int m_brokenAt, .int m_spot, .int m_here, .int m_token, .int m_value, .ref a_m_cuts, .ref a_m_letters, .int m_silent, .int m_greatest, .int m_moves, .int m_holders, .ref a_m_seen, .int m_seenMany, .ref a_m_pointBy, .ref a_m_isKept, .ref a_m_lanes, .ref a_m_lengths, .ref a_m_sheetCells, .int m_torn])), (a_m_state, .inl (k 0, 156, .inl v23))] := hD
          refine lv_goto (tgt := 108) hx hb dX6_byCalm_89 (by decide) ?_
          refine lv_iinc (v := x15.2.1 + (1 : Int32)) (lv' := [(12, .int (x15.2.1 + (1 : Int32))), (10, .long (x15.1 * u1.toInt64)), (0, .ref a_m), (1, .int u1), (2, .int u2), (3, .int u3), (4, .int u4), (5, .long x8.1), (7, .long e5_), (9, .int x8.2.1)]) hx hb dX6_byCalm_108 hl (k := 9) rfl rfl (by decide) rfl (fun ls hl => ?_)
          refine lv_goto (tgt := 53) hx hb dX6_byCalm_111 (by decide) ?_
          exact hC16 _ (zs h) H locs ls hP hD hS (lv_sub hl [2, 3, 4, 5, 6, 7, 8, 9, 1, 0] rfl)
  refine z_lpW (Wh := fun (x1 : Int64 × Int32) => zW p l e (zR 6 131) s m ([.ref a_m, .int u1, .int u2, .int u3, .int u4] : List Value).toArray below meth c Q 13 A G [(a_m, .inr (6, [.ref a_m_state, .ref a_m_readPage, .int m_toldOnce, .ref a_m_tape, .int m_taped, .int m_fault, .int m_broken, .int m_brokenAt, .int m_spot, .int m_here, .int m_token, .int m_value, .ref a_m_cuts, .ref a_m_letters, .int m_silent, .int m_greatest, .int m_moves, .int m_holders, .ref a_m_seen, .int m_seenMany, .ref a_m_pointBy, .ref a_m_isKept, .ref a_m_lanes, .ref a_m_lengths, .ref a_m_sheetCells, .int m_torn])), (a_m_state, .inl (k 0, 156, .inl m_state))] [(0, .ref a_m), (1, .int u1), (2, .int u2), (3, .int u3), (4, .int u4), (5, .long (0 : Int64)), (7, .long x1.1), (9, .int x1.2)] 9 []) ?_ 1000 _ hv H locs ls hP hD hS (lv_sub hl [3, 4, 5, 6, 7, 2, 1, 0] rfl)
  clear h
  intro x1 o h hC2 hX3 H locs ls hP hD hS hl
  unfold p_X6_byCalm_b9 at h
  refine lv_iload hx hb dX6_byCalm_9 (lv_at hl 7 rfl) ?_
  refine lv_iload_n hx hb dX6_byCalm_11 rfl (lv_at hl 3 rfl) ?_
  refine lv_icmp_ge (tgt := 29) hx hb dX6_byCalm_12 (by decide) (fun c7 => ?_) (fun c7 => ?_)
  · have h := zit c7 h
    exact hJ4 _ (hX3 _ (zs h)) H locs ls hP hD hS (lv_sub hl [0, 1, 2, 3, 4, 5, 6] rfl)
  · have h := zif c7 h
    refine lv_lload hx hb dX6_byCalm_15 (lv_at hl 6 rfl) ?_
    refine lv_ldc2 hx hb hown (hts (.constantLong RX6 217 (10)) (List.mem_of_getElem? (i := 1) rfl)) dX6_byCalm_17 ?_
    refine lv_lmul hx hb dX6_byCalm_20 ?_
    refine lv_lstore (lv' := [(7, .long (x1.1 * (10 : Int64))), (0, .ref a_m), (1, .int u1), (2, .int u2), (3, .int u3), (4, .int u4), (5, .long (0 : Int64)), (9, .int x1.2)]) hx hb dX6_byCalm_21 hl (by decide) rfl (fun ls hl => ?_)
    refine lv_iinc (v := x1.2 + (1 : Int32)) (lv' := [(9, .int (x1.2 + (1 : Int32))), (7, .long (x1.1 * (10 : Int64))), (0, .ref a_m), (1, .int u1), (2, .int u2), (3, .int u3), (4, .int u4), (5, .long (0 : Int64))]) hx hb dX6_byCalm_23 hl (k := 7) rfl rfl (by decide) rfl (fun ls hl => ?_)
    refine lv_goto (tgt := 9) hx hb dX6_byCalm_26 (by decide) ?_
    exact hC2 _ (zs h) H locs ls hP hD hS (lv_sub hl [2, 3, 4, 5, 6, 7, 1, 0] rfl)
set_option maxHeartbeats 4000000 in
set_option maxRecDepth 100000 in
theorem c_X6_luck (l : Launch) (G : va_G) (k : Nat → ClassId) (tL tM : Nat) (sK sV : Nat → Nat) (a_m : Nat) (a_m_state : Nat) (a_m_readPage : Nat) (a_m_tape : Nat) (a_m_cuts : Nat) (a_m_letters : Nat) (a_m_seen : Nat) (a_m_pointBy : Nat) (a_m_isKept : Nat) (a_m_lanes : Nat) (a_m_lengths : Nat) (a_m_sheetCells : Nat) (sz : Nat) (m_toldOnce : Int32) (m_taped : Int32) (m_fault : Int32) (m_broken : Int32) (m_brokenAt : Int32) (m_spot : Int32) (m_here : Int32) (m_token : Int32) (m_value : Int32) (m_silent : Int32) (m_greatest : Int32) (m_moves : Int32) (m_holders : Int32) (m_seenMany : Int32) (m_torn : Int32) (m_state : Nat → Int32) (u1 : Int32) (u2 : Int32) (u3 : Int32) (u4 : Int32) (out : Int64 × (Nat → Int32)) (h : p_X6_luck u1 u2 u3 u4 m_silent m_state = some out) : zMl l yX6_luck wsX6_luck 7 163 G k tL tM sK sV [.ref a_m, .int u1, .int u2, .int u3, .int u4] [(a_m, .inr (6, [.ref a_m_state, .ref a_m_readPage, .int m_toldOnce, .ref a_m_tape, .int m_taped, .int m_fault, .int m_broken, .int m_brokenAt, .int m_spot, .int m_here, .int m_token, .int m_value, .ref a_m_cuts, .ref a_m_letters, .int m_silent, .int m_greatest, .int m_moves, .int m_holders, .ref a_m_seen, .int m_seenMany, .ref a_m_pointBy, .ref a_m_isKept, .ref a_m_lanes, .ref a_m_lengths, .ref a_m_sheetCells, .int m_torn])), (a_m_state, .inl (k 0, 156, .inl m_state))] [(a_m, .inr (6, [.ref a_m_state, .ref a_m_readPage, .int m_toldOnce, .ref a_m_tape, .int m_taped, .int m_fault, .int m_broken, .int m_brokenAt, .int m_spot, .int m_here, .int m_token, .int m_value, .ref a_m_cuts, .ref a_m_letters, .int m_silent, .int m_greatest, .int m_moves, .int m_holders, .ref a_m_seen, .int m_seenMany, .ref a_m_pointBy, .ref a_m_isKept, .ref a_m_lanes, .ref a_m_lengths, .ref a_m_sheetCells, .int m_torn])), (a_m_state, .inl (k 0, 156, .inl out.2))] out.1 sz := by
  refine z_metl (cc := cX6_luck) (maxL := 5) (by decide) rfl (Nat.le_of_ble_eq_true rfl) ?_
  intro p e s m below meth c A Q H locs ls hx hb hml hts hown hA hK hE hret hP hD hS hl
  have hown : s.vm.findClass RX6 = some m.cls := hown
  have hl : lv_has ls 5 [(0, .ref a_m), (1, .int u1), (2, .int u2), (3, .int u3), (4, .int u4)] := hl
  unfold p_X6_luck at h
  refine lv_iload_n hx hb dX6_luck_0 rfl (lv_at hl 1 rfl) ?_
  refine lv_i2l (v := u1.toInt64) hx hb dX6_luck_1 rfl ?_
  refine lv_lconst (v := 0) hx hb dX6_luck_2 (by decide) ?_
  refine lv_ldc2 hx hb hown (hts (.constantLong RX6 217 (10)) (List.mem_of_getElem? (i := 1) rfl)) dX6_luck_3 ?_
  obtain ⟨o1, hv, h⟩ := zb h
  refine z_goi (w2 := [(a_m, .inr (6, [.ref a_m_state, .ref a_m_readPage, .int m_toldOnce, .ref a_m_tape, .int m_taped, .int m_fault, .int m_broken, .int m_brokenAt, .int m_spot, .int m_here, .int m_token, .int m_value, .ref a_m_cuts, .ref a_m_letters, .int m_silent, .int m_greatest, .int m_moves, .int m_holders, .ref a_m_seen, .int m_seenMany, .ref a_m_pointBy, .ref a_m_isKept, .ref a_m_lanes, .ref a_m_lengths, .ref a_m_sheetCells, .int m_torn])), (a_m_state, .inl (k 0, 156, .inl m_state))]) [] (va_runS (As := [.long u1.toInt64, .long (0 : Int64), .long (10 : Int64)]) (rest := []) ⟨hx, hb, hml, hown, hts⟩ (c_X6_in l G k tL tM sK sV H.size u1.toInt64 (0 : Int64) (10 : Int64) o1 hv) (va_cwS 3 hts gX6_luck_X6_in rfl rfl rfl (by decide +kernel) ⟨Nat.le_of_ble_eq_true rfl, Nat.le_of_ble_eq_true rfl⟩) (z_preS (wc := []) [] hK hE hA hP hD hS (by decide) rfl) rfl rfl hl.1 rfl (lv_room (Nat.le_of_ble_eq_true rfl)) dX6_luck_6 ⟨Nat.le_refl _, Nat.le_refl _⟩) hA hP hD hS rfl rfl rfl rfl (fun H locs hP hD hS => ?_)
  refine lv_if_eq (tgt := 54) hx hb dX6_luck_9 (by decide) (fun c9 => ?_) (fun c9 => ?_)
  · have h := zit c9 h
    refine lv_ldc2 hx hb hown (hts (.constantLong RX6 208 (-1)) (List.mem_of_getElem? (i := 3) rfl)) dX6_luck_54 ?_
    have hr := (zs h)
    subst hr
    exact hret H locs ls 57 hP hS dX6_luck_57
  · have h := zif c9 h
    refine lv_iload_n hx hb dX6_luck_12 rfl (lv_at hl 2 rfl) ?_
    obtain ⟨o2, hv, h⟩ := zb h
    refine z_goi (w2 := [(a_m, .inr (6, [.ref a_m_state, .ref a_m_readPage, .int m_toldOnce, .ref a_m_tape, .int m_taped, .int m_fault, .int m_broken, .int m_brokenAt, .int m_spot, .int m_here, .int m_token, .int m_value, .ref a_m_cuts, .ref a_m_letters, .int m_silent, .int m_greatest, .int m_moves, .int m_holders, .ref a_m_seen, .int m_seenMany, .ref a_m_pointBy, .ref a_m_isKept, .ref a_m_lanes, .ref a_m_lengths, .ref a_m_sheetCells, .int m_torn])), (a_m_state, .inl (k 0, 156, .inl m_state))]) [] (va_runS (As := [.int u2]) (rest := []) ⟨hx, hb, hml, hown, hts⟩ (c_X6_isCell l G k tL tM sK sV H.size u2 o2 hv) (va_cwS 1 hts gX6_luck_X6_isCell rfl rfl rfl (by decide +kernel) ⟨Nat.le_of_ble_eq_true rfl, Nat.le_of_ble_eq_true rfl⟩) (z_preS (wc := []) [] hK hE hA hP hD hS (by decide) rfl) rfl rfl hl.1 rfl (lv_room (Nat.le_of_ble_eq_true rfl)) dX6_luck_13 ⟨Nat.le_refl _, Nat.le_refl _⟩) hA hP hD hS rfl rfl rfl rfl (fun H locs hP hD hS => ?_)
    refine lv_if_eq (tgt := 54) hx hb dX6_luck_16 (by decide) (fun c8 => ?_) (fun c8 => ?_)
    · have h := zit c8 h
      refine lv_ldc2 hx hb hown (hts (.constantLong RX6 208 (-1)) (List.mem_of_getElem? (i := 3) rfl)) dX6_luck_54 ?_
      have hr := (zs h)
      subst hr
      exact hret H locs ls 57 hP hS dX6_luck_57
    · have h := zif c8 h
      refine lv_iload_n hx hb dX6_luck_19 rfl (lv_at hl 3 rfl) ?_
      refine lv_i2l (v := u3.toInt64) hx hb dX6_luck_20 rfl ?_
      refine lv_lconst (v := 0) hx hb dX6_luck_21 (by decide) ?_
      refine lv_ldc2 hx hb hown (hts (.constantLong RX6 219 (8)) (List.mem_of_getElem? (i := 2) rfl)) dX6_luck_22 ?_
      obtain ⟨o3, hv, h⟩ := zb h
      refine z_goi (w2 := [(a_m, .inr (6, [.ref a_m_state, .ref a_m_readPage, .int m_toldOnce, .ref a_m_tape, .int m_taped, .int m_fault, .int m_broken, .int m_brokenAt, .int m_spot, .int m_here, .int m_token, .int m_value, .ref a_m_cuts, .ref a_m_letters, .int m_silent, .int m_greatest, .int m_moves, .int m_holders, .ref a_m_seen, .int m_seenMany, .ref a_m_pointBy, .ref a_m_isKept, .ref a_m_lanes, .ref a_m_lengths, .ref a_m_sheetCells, .int m_torn])), (a_m_state, .inl (k 0, 156, .inl m_state))]) [] (va_runS (As := [.long u3.toInt64, .long (0 : Int64), .long (8 : Int64)]) (rest := []) ⟨hx, hb, hml, hown, hts⟩ (c_X6_in l G k tL tM sK sV H.size u3.toInt64 (0 : Int64) (8 : Int64) o3 hv) (va_cwS 3 hts gX6_luck_X6_in rfl rfl rfl (by decide +kernel) ⟨Nat.le_of_ble_eq_true rfl, Nat.le_of_ble_eq_true rfl⟩) (z_preS (wc := []) [] hK hE hA hP hD hS (by decide) rfl) rfl rfl hl.1 rfl (lv_room (Nat.le_of_ble_eq_true rfl)) dX6_luck_25 ⟨Nat.le_refl _, Nat.le_refl _⟩) hA hP hD hS rfl rfl rfl rfl (fun H locs hP hD hS => ?_)
      refine lv_if_eq (tgt := 54) hx hb dX6_luck_28 (by decide) (fun c7 => ?_) (fun c7 => ?_)
      · have h := zit c7 h
        refine lv_ldc2 hx hb hown (hts (.constantLong RX6 208 (-1)) (List.mem_of_getElem? (i := 3) rfl)) dX6_luck_54 ?_
        have hr := (zs h)
        subst hr
        exact hret H locs ls 57 hP hS dX6_luck_57
      · have h := zif c7 h
        refine lv_iload hx hb dX6_luck_31 (lv_at hl 4 rfl) ?_
        refine lv_i2l (v := u4.toInt64) hx hb dX6_luck_33 rfl ?_
        refine lv_lconst (v := 0) hx hb dX6_luck_34 (by decide) ?_
        refine lv_lconst (v := 1) hx hb dX6_luck_35 (by decide) ?_
        obtain ⟨o4, hv, h⟩ := zb h
        refine z_goi (w2 := [(a_m, .inr (6, [.ref a_m_state, .ref a_m_readPage, .int m_toldOnce, .ref a_m_tape, .int m_taped, .int m_fault, .int m_broken, .int m_brokenAt, .int m_spot, .int m_here, .int m_token, .int m_value, .ref a_m_cuts, .ref a_m_letters, .int m_silent, .int m_greatest, .int m_moves, .int m_holders, .ref a_m_seen, .int m_seenMany, .ref a_m_pointBy, .ref a_m_isKept, .ref a_m_lanes, .ref a_m_lengths, .ref a_m_sheetCells, .int m_torn])), (a_m_state, .inl (k 0, 156, .inl m_state))]) [] (va_runS (As := [.long u4.toInt64, .long (0 : Int64), .long (1 : Int64)]) (rest := []) ⟨hx, hb, hml, hown, hts⟩ (c_X6_in l G k tL tM sK sV H.size u4.toInt64 (0 : Int64) (1 : Int64) o4 hv) (va_cwS 3 hts gX6_luck_X6_in rfl rfl rfl (by decide +kernel) ⟨Nat.le_of_ble_eq_true rfl, Nat.le_of_ble_eq_true rfl⟩) (z_preS (wc := []) [] hK hE hA hP hD hS (by decide) rfl) rfl rfl hl.1 rfl (lv_room (Nat.le_of_ble_eq_true rfl)) dX6_luck_36 ⟨Nat.le_refl _, Nat.le_refl _⟩) hA hP hD hS rfl rfl rfl rfl (fun H locs hP hD hS => ?_)
        refine lv_if_eq (tgt := 54) hx hb dX6_luck_39 (by decide) (fun c6 => ?_) (fun c6 => ?_)
        · have h := zit c6 h
          refine lv_ldc2 hx hb hown (hts (.constantLong RX6 208 (-1)) (List.mem_of_getElem? (i := 3) rfl)) dX6_luck_54 ?_
          have hr := (zs h)
          subst hr
          exact hret H locs ls 57 hP hS dX6_luck_57
        · have h := zif c6 h
          refine lv_aload_n hx hb dX6_luck_42 rfl (lv_at hl 0 rfl) ?_
          refine lv_iload_n hx hb dX6_luck_43 rfl (lv_at hl 1 rfl) ?_
          refine lv_iload_n hx hb dX6_luck_44 rfl (lv_at hl 2 rfl) ?_
          refine lv_iload_n hx hb dX6_luck_45 rfl (lv_at hl 3 rfl) ?_
          refine lv_iload hx hb dX6_luck_46 (lv_at hl 4 rfl) ?_
          obtain ⟨o5, hv, h⟩ := zb h
          refine z_gol (w2 := [(a_m, .inr (6, [.ref a_m_state, .ref a_m_readPage, .int m_toldOnce, .ref a_m_tape, .int m_taped, .int m_fault, .int m_broken, .int m_brokenAt, .int m_spot, .int m_here, .int m_token, .int m_value, .ref a_m_cuts, .ref a_m_letters, .int m_silent, .int m_greatest, .int m_moves, .int m_holders, .ref a_m_seen, .int m_seenMany, .ref a_m_pointBy, .ref a_m_isKept, .ref a_m_lanes, .ref a_m_lengths, .ref a_m_sheetCells, .int m_torn])), (a_m_state, .inl (k 0, 156, .inl o5.2))]) [0, 1] (va_runV (As := [.int u1, .int u2, .int u3, .int u4]) (rest := []) ⟨hx, hb, hml, hown, hts⟩ (c_X6_byCalm l G k tL tM sK sV a_m a_m_state a_m_readPage a_m_tape a_m_cuts a_m_letters a_m_seen a_m_pointBy a_m_isKept a_m_lanes a_m_lengths a_m_sheetCells H.size m_toldOnce m_taped m_fault m_broken m_brokenAt m_spot m_here m_token m_value m_silent m_greatest m_moves m_holders m_seenMany m_torn m_state u1 u2 u3 u4 o5 hv) (cwV 4 hts gX6_luck_X6_byCalm rfl rfl rfl (by decide +kernel) ⟨Nat.le_of_ble_eq_true rfl, Nat.le_of_ble_eq_true rfl⟩) (z_preV (wc := [(a_m, .inr (6, [.ref a_m_state, .ref a_m_readPage, .int m_toldOnce, .ref a_m_tape, .int m_taped, .int m_fault, .int m_broken, .int m_brokenAt, .int m_spot, .int m_here, .int m_token, .int m_value, .ref a_m_cuts, .ref a_m_letters, .int m_silent, .int m_greatest, .int m_moves, .int m_holders, .ref a_m_seen, .int m_seenMany, .ref a_m_pointBy, .ref a_m_isKept, .ref a_m_lanes, .ref a_m_lengths, .ref a_m_sheetCells, .int m_torn])), (a_m_state, .inl (k 0, 156, .inl m_state))]) [0, 1] 0 6 hK hE hA hP hD hS (by decide) rfl rfl rfl) rfl rfl hl.1 rfl (lv_room (Nat.le_of_ble_eq_true rfl)) dX6_luck_48 ⟨Nat.le_refl _, Nat.le_refl _⟩) hA hP hD hS rfl rfl rfl rfl (fun H locs hP hD hS => ?_)
          refine lv_goto (tgt := 57) hx hb dX6_luck_51 (by decide) ?_
          have hr := (zs h)
          subst hr
          exact hret H locs ls 57 hP hS dX6_luck_57
set_option maxHeartbeats 4000000 in
set_option maxRecDepth 100000 in
theorem c_X6_mean (l : Launch) (G : va_G) (k : Nat → ClassId) (tL tM : Nat) (sK sV : Nat → Nat) (a_m : Nat) (a_m_state : Nat) (a_m_readPage : Nat) (a_m_tape : Nat) (a_m_cuts : Nat) (a_m_letters : Nat) (a_m_seen : Nat) (a_m_pointBy : Nat) (a_m_isKept : Nat) (a_m_lanes : Nat) (a_m_lengths : Nat) (a_m_sheetCells : Nat) (sz : Nat) (m_toldOnce : Int32) (m_taped : Int32) (m_fault : Int32) (m_broken : Int32) (m_brokenAt : Int32) (m_spot : Int32) (m_here : Int32) (m_token : Int32) (m_value : Int32) (m_silent : Int32) (m_greatest : Int32) (m_moves : Int32) (m_holders : Int32) (m_seenMany : Int32) (m_torn : Int32) (m_state : Nat → Int32) (u1 : Int32) (u2 : Int32) (u3 : Int32) (out : Int64 × (Nat → Int32)) (h : p_X6_mean u1 u2 u3 m_silent m_state = some out) : zMl l yX6_mean wsX6_mean 7 163 G k tL tM sK sV [.ref a_m, .int u1, .int u2, .int u3] [(a_m, .inr (6, [.ref a_m_state, .ref a_m_readPage, .int m_toldOnce, .ref a_m_tape, .int m_taped, .int m_fault, .int m_broken, .int m_brokenAt, .int m_spot, .int m_here, .int m_token, .int m_value, .ref a_m_cuts, .ref a_m_letters, .int m_silent, .int m_greatest, .int m_moves, .int m_holders, .ref a_m_seen, .int m_seenMany, .ref a_m_pointBy, .ref a_m_isKept, .ref a_m_lanes, .ref a_m_lengths, .ref a_m_sheetCells, .int m_torn])), (a_m_state, .inl (k 0, 156, .inl m_state))] [(a_m, .inr (6, [.ref a_m_state, .ref a_m_readPage, .int m_toldOnce, .ref a_m_tape, .int m_taped, .int m_fault, .int m_broken, .int m_brokenAt, .int m_spot, .int m_here, .int m_token, .int m_value, .ref a_m_cuts, .ref a_m_letters, .int m_silent, .int m_greatest, .int m_moves, .int m_holders, .ref a_m_seen, .int m_seenMany, .ref a_m_pointBy, .ref a_m_isKept, .ref a_m_lanes, .ref a_m_lengths, .ref a_m_sheetCells, .int m_torn])), (a_m_state, .inl (k 0, 156, .inl out.2))] out.1 sz := by
  refine z_metl (cc := cX6_mean) (maxL := 4) (by decide) rfl (Nat.le_of_ble_eq_true rfl) ?_
  intro p e s m below meth c A Q H locs ls hx hb hml hts hown hA hK hE hret hP hD hS hl
  have hown : s.vm.findClass RX6 = some m.cls := hown
  have hl : lv_has ls 4 [(0, .ref a_m), (1, .int u1), (2, .int u2), (3, .int u3)] := hl
  unfold p_X6_mean at h
  refine lv_iload_n hx hb dX6_mean_0 rfl (lv_at hl 1 rfl) ?_
  refine lv_i2l (v := u1.toInt64) hx hb dX6_mean_1 rfl ?_
  refine lv_lconst (v := 0) hx hb dX6_mean_2 (by decide) ?_
  refine lv_ldc2 hx hb hown (hts (.constantLong RX6 217 (10)) (List.mem_of_getElem? (i := 1) rfl)) dX6_mean_3 ?_
  obtain ⟨o1, hv, h⟩ := zb h
  refine z_goi (w2 := [(a_m, .inr (6, [.ref a_m_state, .ref a_m_readPage, .int m_toldOnce, .ref a_m_tape, .int m_taped, .int m_fault, .int m_broken, .int m_brokenAt, .int m_spot, .int m_here, .int m_token, .int m_value, .ref a_m_cuts, .ref a_m_letters, .int m_silent, .int m_greatest, .int m_moves, .int m_holders, .ref a_m_seen, .int m_seenMany, .ref a_m_pointBy, .ref a_m_isKept, .ref a_m_lanes, .ref a_m_lengths, .ref a_m_sheetCells, .int m_torn])), (a_m_state, .inl (k 0, 156, .inl m_state))]) [] (va_runS (As := [.long u1.toInt64, .long (0 : Int64), .long (10 : Int64)]) (rest := []) ⟨hx, hb, hml, hown, hts⟩ (c_X6_in l G k tL tM sK sV H.size u1.toInt64 (0 : Int64) (10 : Int64) o1 hv) (va_cwS 3 hts gX6_mean_X6_in rfl rfl rfl (by decide +kernel) ⟨Nat.le_of_ble_eq_true rfl, Nat.le_of_ble_eq_true rfl⟩) (z_preS (wc := []) [] hK hE hA hP hD hS (by decide) rfl) rfl rfl hl.1 rfl (lv_room (Nat.le_of_ble_eq_true rfl)) dX6_mean_6 ⟨Nat.le_refl _, Nat.le_refl _⟩) hA hP hD hS rfl rfl rfl rfl (fun H locs hP hD hS => ?_)
  refine lv_if_eq (tgt := 46) hx hb dX6_mean_9 (by decide) (fun c7 => ?_) (fun c7 => ?_)
  · have h := zit c7 h
    refine lv_ldc2 hx hb hown (hts (.constantLong RX6 208 (-1)) (List.mem_of_getElem? (i := 3) rfl)) dX6_mean_46 ?_
    have hr := (zs h)
    subst hr
    exact hret H locs ls 49 hP hS dX6_mean_49
  · have h := zif c7 h
    refine lv_iload_n hx hb dX6_mean_12 rfl (lv_at hl 2 rfl) ?_
    refine lv_i2l (v := u2.toInt64) hx hb dX6_mean_13 rfl ?_
    refine lv_lconst (v := 0) hx hb dX6_mean_14 (by decide) ?_
    refine lv_ldc2 hx hb hown (hts (.constantLong RX6 219 (8)) (List.mem_of_getElem? (i := 2) rfl)) dX6_mean_15 ?_
    obtain ⟨o2, hv, h⟩ := zb h
    refine z_goi (w2 := [(a_m, .inr (6, [.ref a_m_state, .ref a_m_readPage, .int m_toldOnce, .ref a_m_tape, .int m_taped, .int m_fault, .int m_broken, .int m_brokenAt, .int m_spot, .int m_here, .int m_token, .int m_value, .ref a_m_cuts, .ref a_m_letters, .int m_silent, .int m_greatest, .int m_moves, .int m_holders, .ref a_m_seen, .int m_seenMany, .ref a_m_pointBy, .ref a_m_isKept, .ref a_m_lanes, .ref a_m_lengths, .ref a_m_sheetCells, .int m_torn])), (a_m_state, .inl (k 0, 156, .inl m_state))]) [] (va_runS (As := [.long u2.toInt64, .long (0 : Int64), .long (8 : Int64)]) (rest := []) ⟨hx, hb, hml, hown, hts⟩ (c_X6_in l G k tL tM sK sV H.size u2.toInt64 (0 : Int64) (8 : Int64) o2 hv) (va_cwS 3 hts gX6_mean_X6_in rfl rfl rfl (by decide +kernel) ⟨Nat.le_of_ble_eq_true rfl, Nat.le_of_ble_eq_true rfl⟩) (z_preS (wc := []) [] hK hE hA hP hD hS (by decide) rfl) rfl rfl hl.1 rfl (lv_room (Nat.le_of_ble_eq_true rfl)) dX6_mean_18 ⟨Nat.le_refl _, Nat.le_refl _⟩) hA hP hD hS rfl rfl rfl rfl (fun H locs hP hD hS => ?_)
    refine lv_if_eq (tgt := 46) hx hb dX6_mean_21 (by decide) (fun c6 => ?_) (fun c6 => ?_)
    · have h := zit c6 h
      refine lv_ldc2 hx hb hown (hts (.constantLong RX6 208 (-1)) (List.mem_of_getElem? (i := 3) rfl)) dX6_mean_46 ?_
      have hr := (zs h)
      subst hr
      exact hret H locs ls 49 hP hS dX6_mean_49
    · have h := zif c6 h
      refine lv_iload_n hx hb dX6_mean_24 rfl (lv_at hl 3 rfl) ?_
      refine lv_i2l (v := u3.toInt64) hx hb dX6_mean_25 rfl ?_
      refine lv_lconst (v := 0) hx hb dX6_mean_26 (by decide) ?_
      refine lv_lconst (v := 1) hx hb dX6_mean_27 (by decide) ?_
      obtain ⟨o3, hv, h⟩ := zb h
      refine z_goi (w2 := [(a_m, .inr (6, [.ref a_m_state, .ref a_m_readPage, .int m_toldOnce, .ref a_m_tape, .int m_taped, .int m_fault, .int m_broken, .int m_brokenAt, .int m_spot, .int m_here, .int m_token, .int m_value, .ref a_m_cuts, .ref a_m_letters, .int m_silent, .int m_greatest, .int m_moves, .int m_holders, .ref a_m_seen, .int m_seenMany, .ref a_m_pointBy, .ref a_m_isKept, .ref a_m_lanes, .ref a_m_lengths, .ref a_m_sheetCells, .int m_torn])), (a_m_state, .inl (k 0, 156, .inl m_state))]) [] (va_runS (As := [.long u3.toInt64, .long (0 : Int64), .long (1 : Int64)]) (rest := []) ⟨hx, hb, hml, hown, hts⟩ (c_X6_in l G k tL tM sK sV H.size u3.toInt64 (0 : Int64) (1 : Int64) o3 hv) (va_cwS 3 hts gX6_mean_X6_in rfl rfl rfl (by decide +kernel) ⟨Nat.le_of_ble_eq_true rfl, Nat.le_of_ble_eq_true rfl⟩) (z_preS (wc := []) [] hK hE hA hP hD hS (by decide) rfl) rfl rfl hl.1 rfl (lv_room (Nat.le_of_ble_eq_true rfl)) dX6_mean_28 ⟨Nat.le_refl _, Nat.le_refl _⟩) hA hP hD hS rfl rfl rfl rfl (fun H locs hP hD hS => ?_)
      refine lv_if_eq (tgt := 46) hx hb dX6_mean_31 (by decide) (fun c5 => ?_) (fun c5 => ?_)
      · have h := zit c5 h
        refine lv_ldc2 hx hb hown (hts (.constantLong RX6 208 (-1)) (List.mem_of_getElem? (i := 3) rfl)) dX6_mean_46 ?_
        have hr := (zs h)
        subst hr
        exact hret H locs ls 49 hP hS dX6_mean_49
      · have h := zif c5 h
        refine lv_aload_n hx hb dX6_mean_34 rfl (lv_at hl 0 rfl) ?_
        refine lv_iload_n hx hb dX6_mean_35 rfl (lv_at hl 1 rfl) ?_
        refine lv_bipush (v := (-4)) hx hb dX6_mean_36 (by decide) ?_
        refine lv_iload_n hx hb dX6_mean_38 rfl (lv_at hl 2 rfl) ?_
        refine lv_iload_n hx hb dX6_mean_39 rfl (lv_at hl 3 rfl) ?_
        obtain ⟨o4, hv, h⟩ := zb h
        refine z_gol (w2 := [(a_m, .inr (6, [.ref a_m_state, .ref a_m_readPage, .int m_toldOnce, .ref a_m_tape, .int m_taped, .int m_fault, .int m_broken, .int m_brokenAt, .int m_spot, .int m_here, .int m_token, .int m_value, .ref a_m_cuts, .ref a_m_letters, .int m_silent, .int m_greatest, .int m_moves, .int m_holders, .ref a_m_seen, .int m_seenMany, .ref a_m_pointBy, .ref a_m_isKept, .ref a_m_lanes, .ref a_m_lengths, .ref a_m_sheetCells, .int m_torn])), (a_m_state, .inl (k 0, 156, .inl o4.2))]) [0, 1] (va_runV (As := [.int u1, .int (-4 : Int32), .int u2, .int u3]) (rest := []) ⟨hx, hb, hml, hown, hts⟩ (c_X6_byCalm l G k tL tM sK sV a_m a_m_state a_m_readPage a_m_tape a_m_cuts a_m_letters a_m_seen a_m_pointBy a_m_isKept a_m_lanes a_m_lengths a_m_sheetCells H.size m_toldOnce m_taped m_fault m_broken m_brokenAt m_spot m_here m_token m_value m_silent m_greatest m_moves m_holders m_seenMany m_torn m_state u1 (-4 : Int32) u2 u3 o4 hv) (cwV 4 hts gX6_mean_X6_byCalm rfl rfl rfl (by decide +kernel) ⟨Nat.le_of_ble_eq_true rfl, Nat.le_of_ble_eq_true rfl⟩) (z_preV (wc := [(a_m, .inr (6, [.ref a_m_state, .ref a_m_readPage, .int m_toldOnce, .ref a_m_tape, .int m_taped, .int m_fault, .int m_broken, .int m_brokenAt, .int m_spot, .int m_here, .int m_token, .int m_value, .ref a_m_cuts, .ref a_m_letters, .int m_silent, .int m_greatest, .int m_moves, .int m_holders, .ref a_m_seen, .int m_seenMany, .ref a_m_pointBy, .ref a_m_isKept, .ref a_m_lanes, .ref a_m_lengths, .ref a_m_sheetCells, .int m_torn])), (a_m_state, .inl (k 0, 156, .inl m_state))]) [0, 1] 0 6 hK hE hA hP hD hS (by decide) rfl rfl rfl) rfl rfl hl.1 rfl (lv_room (Nat.le_of_ble_eq_true rfl)) dX6_mean_40 ⟨Nat.le_refl _, Nat.le_refl _⟩) hA hP hD hS rfl rfl rfl rfl (fun H locs hP hD hS => ?_)
        refine lv_goto (tgt := 49) hx hb dX6_mean_43 (by decide) ?_
        have hr := (zs h)
        subst hr
        exact hret H locs ls 49 hP hS dX6_mean_49
theorem iw_X6_see_X6 : ∀ w ∈ wsX60, w ∈ wsX6_see := fun _ h => List.mem_cons_of_mem _ (List.mem_append_right _ h)
set_option maxHeartbeats 4000000 in
set_option maxRecDepth 100000 in
theorem c_X6_see (l : Launch) (G : va_G) (k : Nat → ClassId) (tL tM : Nat) (sK sV : Nat → Nat) (a_m : Nat) (a_m_state : Nat) (a_m_readPage : Nat) (a_m_tape : Nat) (a_m_cuts : Nat) (a_m_letters : Nat) (a_m_seen : Nat) (a_m_pointBy : Nat) (a_m_isKept : Nat) (a_m_lanes : Nat) (a_m_lengths : Nat) (a_m_sheetCells : Nat) (sz : Nat) (m_toldOnce : Int32) (m_taped : Int32) (m_fault : Int32) (m_broken : Int32) (m_brokenAt : Int32) (m_spot : Int32) (m_here : Int32) (m_token : Int32) (m_value : Int32) (m_silent : Int32) (m_greatest : Int32) (m_moves : Int32) (m_holders : Int32) (m_seenMany : Int32) (m_torn : Int32) (m_seen : Nat → Int32) (u1 : Int32) (u2 : Int32) (out : Int32 × Int32 × (Nat → Int32)) (h : p_X6_see u1 u2 m_seenMany m_seen = some out) : zMi l yX6_see wsX6_see 2 45 G k tL tM sK sV [.ref a_m, .int u1, .int u2] [(a_m, .inr (6, [.ref a_m_state, .ref a_m_readPage, .int m_toldOnce, .ref a_m_tape, .int m_taped, .int m_fault, .int m_broken, .int m_brokenAt, .int m_spot, .int m_here, .int m_token, .int m_value, .ref a_m_cuts, .ref a_m_letters, .int m_silent, .int m_greatest, .int m_moves, .int m_holders, .ref a_m_seen, .int m_seenMany, .ref a_m_pointBy, .ref a_m_isKept, .ref a_m_lanes, .ref a_m_lengths, .ref a_m_sheetCells, .int m_torn])), (a_m_seen, .inl (k 0, 12, .inl m_seen))] [(a_m, .inr (6, [.ref a_m_state, .ref a_m_readPage, .int m_toldOnce, .ref a_m_tape, .int m_taped, .int m_fault, .int m_broken, .int m_brokenAt, .int m_spot, .int m_here, .int m_token, .int m_value, .ref a_m_cuts, .ref a_m_letters, .int m_silent, .int m_greatest, .int m_moves, .int m_holders, .ref a_m_seen, .int out.2.1, .ref a_m_pointBy, .ref a_m_isKept, .ref a_m_lanes, .ref a_m_lengths, .ref a_m_sheetCells, .int m_torn])), (a_m_seen, .inl (k 0, 12, .inl out.2.2))] out.1 sz := by
  refine z_meti (cc := cX6_see) (maxL := 3) (by decide) rfl (Nat.le_of_ble_eq_true rfl) ?_
  intro p e s m below meth c A Q H locs ls hx hb hml hts hown hA hK hE hret hP hD hS hl
  have hown : s.vm.findClass RX6 = some m.cls := hown
  have hl : lv_has ls 3 [(0, .ref a_m), (1, .int u1), (2, .int u2)] := hl
  unfold p_X6_see at h
  refine lv_iload_n hx hb dX6_see_0 rfl (lv_at hl 1 rfl) ?_
  refine lv_i2l (v := u1.toInt64) hx hb dX6_see_1 rfl ?_
  refine lv_lconst (v := 0) hx hb dX6_see_2 (by decide) ?_
  refine lv_ldc2 hx hb hown (hts (.constantLong RX6 183 (30)) (List.mem_of_getElem? (i := 1) rfl)) dX6_see_3 ?_
  obtain ⟨o1, hv, h⟩ := zb h
  refine z_goi (w2 := [(a_m, .inr (6, [.ref a_m_state, .ref a_m_readPage, .int m_toldOnce, .ref a_m_tape, .int m_taped, .int m_fault, .int m_broken, .int m_brokenAt, .int m_spot, .int m_here, .int m_token, .int m_value, .ref a_m_cuts, .ref a_m_letters, .int m_silent, .int m_greatest, .int m_moves, .int m_holders, .ref a_m_seen, .int m_seenMany, .ref a_m_pointBy, .ref a_m_isKept, .ref a_m_lanes, .ref a_m_lengths, .ref a_m_sheetCells, .int m_torn])), (a_m_seen, .inl (k 0, 12, .inl m_seen))]) [] (va_runS (As := [.long u1.toInt64, .long (0 : Int64), .long (30 : Int64)]) (rest := []) ⟨hx, hb, hml, hown, hts⟩ (c_X6_in l G k tL tM sK sV H.size u1.toInt64 (0 : Int64) (30 : Int64) o1 hv) (va_cwS 3 hts gX6_see_X6_in rfl rfl rfl (by decide +kernel) ⟨Nat.le_of_ble_eq_true rfl, Nat.le_of_ble_eq_true rfl⟩) (z_preS (wc := []) [] hK hE hA hP hD hS (by decide) rfl) rfl rfl hl.1 rfl (lv_room (Nat.le_of_ble_eq_true rfl)) dX6_see_6 ⟨Nat.le_refl _, Nat.le_refl _⟩) hA hP hD hS rfl rfl rfl rfl (fun H locs hP hD hS => ?_)
  refine lv_if_eq (tgt := 19) hx hb dX6_see_9 (by decide) (fun c7 => ?_) (fun c7 => ?_)
  · have h := zit c7 h
    refine lv_iconst (v := (-1)) hx hb dX6_see_19 (by decide) ?_
    have hr := (zs h)
    subst hr
    exact hret H locs ls 20 hP hS dX6_see_20
  · have h := zif c7 h
    refine lv_iload_n hx hb dX6_see_12 rfl (lv_at hl 2 rfl) ?_
    obtain ⟨o2, hv, h⟩ := zb h
    refine z_goi (w2 := [(a_m, .inr (6, [.ref a_m_state, .ref a_m_readPage, .int m_toldOnce, .ref a_m_tape, .int m_taped, .int m_fault, .int m_broken, .int m_brokenAt, .int m_spot, .int m_here, .int m_token, .int m_value, .ref a_m_cuts, .ref a_m_letters, .int m_silent, .int m_greatest, .int m_moves, .int m_holders, .ref a_m_seen, .int m_seenMany, .ref a_m_pointBy, .ref a_m_isKept, .ref a_m_lanes, .ref a_m_lengths, .ref a_m_sheetCells, .int m_torn])), (a_m_seen, .inl (k 0, 12, .inl m_seen))]) [] (va_runS (As := [.int u2]) (rest := []) ⟨hx, hb, hml, hown, hts⟩ (c_X6_isCell l G k tL tM sK sV H.size u2 o2 hv) (va_cwS 1 hts gX6_see_X6_isCell rfl rfl rfl (by decide +kernel) ⟨Nat.le_of_ble_eq_true rfl, Nat.le_of_ble_eq_true rfl⟩) (z_preS (wc := []) [] hK hE hA hP hD hS (by decide) rfl) rfl rfl hl.1 rfl (lv_room (Nat.le_of_ble_eq_true rfl)) dX6_see_13 ⟨Nat.le_refl _, Nat.le_refl _⟩) hA hP hD hS rfl rfl rfl rfl (fun H locs hP hD hS => ?_)
    refine lv_if_ne (tgt := 21) hx hb dX6_see_16 (by decide) (fun c6 => ?_) (fun c6 => ?_)
    · have h := zif c6 h
      refine lv_aload_n hx hb dX6_see_21 rfl (lv_at hl 0 rfl) ?_
      refine va_get (D := G) (ci := 6) (v := .int m_seenMany) (C := RX6) (T := TX6) (N := 26) hx hb hts iw_X6_see_X6 hown hK hP 0 rfl rfl 19 (by decide) (hts (.fieldLink RX6 116 "SpireLeanModel" "seenMany" "I") (List.mem_of_getElem? (i := 2) rfl)) (fun _ h9 => h9) rfl dX6_see_22 ?_
      refine lv_bipush (v := 6) hx hb dX6_see_25 (by decide) ?_
      refine lv_icmp_ne (tgt := 33) hx hb dX6_see_27 (by decide) (fun c5 => ?_) (fun c5 => ?_)
      · have h := zif c5 h
        refine lv_aload_n hx hb dX6_see_33 rfl (lv_at hl 0 rfl) ?_
        refine va_get (D := G) (ci := 6) (v := .ref a_m_seen) (C := RX6) (T := TX6) (N := 26) hx hb hts iw_X6_see_X6 hown hK hP 0 rfl rfl 18 (by decide) (hts (.fieldLink RX6 29 "SpireLeanModel" "seen" "[I") (List.mem_of_getElem? (i := 3) rfl)) (fun _ h9 => h9) rfl dX6_see_34 ?_
        refine lv_iconst (v := 2) hx hb dX6_see_37 (by decide) ?_
        refine lv_aload_n hx hb dX6_see_38 rfl (lv_at hl 0 rfl) ?_
        refine va_get (D := G) (ci := 6) (v := .int m_seenMany) (C := RX6) (T := TX6) (N := 26) hx hb hts iw_X6_see_X6 hown hK hP 0 rfl rfl 19 (by decide) (hts (.fieldLink RX6 116 "SpireLeanModel" "seenMany" "I") (List.mem_of_getElem? (i := 2) rfl)) (fun _ h9 => h9) rfl dX6_see_39 ?_
        refine lv_imul hx hb dX6_see_42 ?_
        refine lv_iload_n hx hb dX6_see_43 rfl (lv_at hl 1 rfl) ?_
        obtain ⟨v3, hv, h⟩ := zb h
        refine z_iast hx hb hK hP hD hS 1 0 rfl rfl hv dX6_see_44 (fun H locs hP hD hS => ?_)
        have hP : va_P G vwCl [(a_m, .inr (6, [.ref a_m_state, .ref a_m_readPage, .int m_toldOnce, .ref a_m_tape, .int m_taped, .int m_fault, .int m_broken, .int m_brokenAt, .int m_spot, .int m_here, .int m_token, .int m_value, .ref a_m_cuts, .ref a_m_letters, .int m_silent, .int m_greatest, .int m_moves, .int m_holders, .ref a_m_seen, .int m_seenMany, .ref a_m_pointBy, .ref a_m_isKept, .ref a_m_lanes, .ref a_m_lengths, .ref a_m_sheetCells, .int m_torn])), (a_m_seen, .inl (k 0, 12, .inl v3))] H := hP
        have hD : va_D A [(a_m, .inr (6, [.ref a_m_state, .ref a_m_readPage, .int m_toldOnce, .ref a_m_tape, .int m_taped, .int m_fault, .int m_broken, .int m_brokenAt, .int m_spot, .int m_here, .int m_token, .int m_value, .ref a_m_cuts, .ref a_m_letters, .int m_silent, .int m_greatest, .int m_moves, .int m_holders, .ref a_m_seen, .int m_seenMany, .ref a_m_pointBy, .ref a_m_isKept, .ref a_m_lanes, .ref a_m_lengths, .ref a_m_sheetCells, .int m_torn])), (a_m_seen, .inl (k 0, 12, .inl v3))] := hD
        refine lv_aload_n hx hb dX6_see_45 rfl (lv_at hl 0 rfl) ?_
        refine va_get (D := G) (ci := 6) (v := .ref a_m_seen) (C := RX6) (T := TX6) (N := 26) hx hb hts iw_X6_see_X6 hown hK hP 0 rfl rfl 18 (by decide) (hts (.fieldLink RX6 29 "SpireLeanModel" "seen" "[I") (List.mem_of_getElem? (i := 3) rfl)) (fun _ h9 => h9) rfl dX6_see_46 ?_
        refine lv_iconst (v := 2) hx hb dX6_see_49 (by decide) ?_
        refine lv_aload_n hx hb dX6_see_50 rfl (lv_at hl 0 rfl) ?_
        refine va_get (D := G) (ci := 6) (v := .int m_seenMany) (C := RX6) (T := TX6) (N := 26) hx hb hts iw_X6_see_X6 hown hK hP 0 rfl rfl 19 (by decide) (hts (.fieldLink RX6 116 "SpireLeanModel" "seenMany" "I") (List.mem_of_getElem? (i := 2) rfl)) (fun _ h9 => h9) rfl dX6_see_51 ?_
        refine lv_imul hx hb dX6_see_54 ?_
        refine lv_iconst (v := 1) hx hb dX6_see_55 (by decide) ?_
        refine lv_iadd hx hb dX6_see_56 ?_
        refine lv_iload_n hx hb dX6_see_57 rfl (lv_at hl 2 rfl) ?_
        obtain ⟨v4, hv, h⟩ := zb h
        refine z_iast hx hb hK hP hD hS 1 0 rfl rfl hv dX6_see_58 (fun H locs hP hD hS => ?_)
        have hP : va_P G vwCl [(a_m, .inr (6, [.ref a_m_state, .ref a_m_readPage, .int m_toldOnce, .ref a_m_tape, .int m_taped, .int m_fault, .int m_broken, .int m_brokenAt, .int m_spot, .int m_here, .int m_token, .int m_value, .ref a_m_cuts, .ref a_m_letters, .int m_silent, .int m_greatest, .int m_moves, .int m_holders, .ref a_m_seen, .int m_seenMany, .ref a_m_pointBy, .ref a_m_isKept, .ref a_m_lanes, .ref a_m_lengths, .ref a_m_sheetCells, .int m_torn])), (a_m_seen, .inl (k 0, 12, .inl v4))] H := hP
        have hD : va_D A [(a_m, .inr (6, [.ref a_m_state, .ref a_m_readPage, .int m_toldOnce, .ref a_m_tape, .int m_taped, .int m_fault, .int m_broken, .int m_brokenAt, .int m_spot, .int m_here, .int m_token, .int m_value, .ref a_m_cuts, .ref a_m_letters, .int m_silent, .int m_greatest, .int m_moves, .int m_holders, .ref a_m_seen, .int m_seenMany, .ref a_m_pointBy, .ref a_m_isKept, .ref a_m_lanes, .ref a_m_lengths, .ref a_m_sheetCells, .int m_torn])), (a_m_seen, .inl (k 0, 12, .inl v4))] := hD
        refine lv_aload_n hx hb dX6_see_59 rfl (lv_at hl 0 rfl) ?_
        refine lv_dup hx hb dX6_see_60 rfl ?_
        refine va_get (D := G) (ci := 6) (v := .int m_seenMany) (C := RX6) (T := TX6) (N := 26) hx hb hts iw_X6_see_X6 hown hK hP 0 rfl rfl 19 (by decide) (hts (.fieldLink RX6 116 "SpireLeanModel" "seenMany" "I") (List.mem_of_getElem? (i := 2) rfl)) (fun _ h9 => h9) rfl dX6_see_61 ?_
        refine lv_iconst (v := 1) hx hb dX6_see_64 (by decide) ?_
        refine lv_iadd hx hb dX6_see_65 ?_
        refine va_put (D := G) (ci := 6) (v := .int (m_seenMany + (1 : Int32))) (ty := .int) (C := RX6) (T := TX6) (N := 26) hx hb hts iw_X6_see_X6 tyX6 tyX6_ok nmX6 hown hK hP hD hS 0 rfl rfl 19 (by decide) (hts (.fieldLink RX6 116 "SpireLeanModel" "seenMany" "I") (List.mem_of_getElem? (i := 2) rfl)) (fun _ h9 => h9) rfl (tyX6_ok 19 (by decide)) rfl rfl (Nat.le_of_ble_eq_true rfl) dX6_see_66 (fun H locs hP hD hS => ?_)
        have hP : va_P G vwCl [(a_m, .inr (6, [.ref a_m_state, .ref a_m_readPage, .int m_toldOnce, .ref a_m_tape, .int m_taped, .int m_fault, .int m_broken, .int m_brokenAt, .int m_spot, .int m_here, .int m_token, .int m_value, .ref a_m_cuts, .ref a_m_letters, .int m_silent, .int m_greatest, .int m_moves, .int m_holders, .ref a_m_seen, .int (m_seenMany + (1 : Int32)), .ref a_m_pointBy, .ref a_m_isKept, .ref a_m_lanes, .ref a_m_lengths, .ref a_m_sheetCells, .int m_torn])), (a_m_seen, .inl (k 0, 12, .inl v4))] H := hP
        have hD : va_D A [(a_m, .inr (6, [.ref a_m_state, .ref a_m_readPage, .int m_toldOnce, .ref a_m_tape, .int m_taped, .int m_fault, .int m_broken, .int m_brokenAt, .int m_spot, .int m_here, .int m_token, .int m_value, .ref a_m_cuts, .ref a_m_letters, .int m_silent, .int m_greatest, .int m_moves, .int m_holders, .ref a_m_seen, .int (m_seenMany + (1 : Int32)), .ref a_m_pointBy, .ref a_m_isKept, .ref a_m_lanes, .ref a_m_lengths, .ref a_m_sheetCells, .int m_torn])), (a_m_seen, .inl (k 0, 12, .inl v4))] := hD
        refine lv_aload_n hx hb dX6_see_69 rfl (lv_at hl 0 rfl) ?_
        refine va_get (D := G) (ci := 6) (v := .int (m_seenMany + (1 : Int32))) (C := RX6) (T := TX6) (N := 26) hx hb hts iw_X6_see_X6 hown hK hP 0 rfl rfl 19 (by decide) (hts (.fieldLink RX6 116 "SpireLeanModel" "seenMany" "I") (List.mem_of_getElem? (i := 2) rfl)) (fun _ h9 => h9) rfl dX6_see_70 ?_
        have hr := (zs h)
        subst hr
        exact hret H locs ls 73 hP hS dX6_see_73
      · have h := zit c5 h
        refine lv_bipush (v := (-3)) hx hb dX6_see_30 (by decide) ?_
        have hr := (zs h)
        subst hr
        exact hret H locs ls 32 hP hS dX6_see_32
    · have h := zit c6 h
      refine lv_iconst (v := (-1)) hx hb dX6_see_19 (by decide) ?_
      have hr := (zs h)
      subst hr
      exact hret H locs ls 20 hP hS dX6_see_20
theorem iw_X6_forget_X6 : ∀ w ∈ wsX60, w ∈ wsX6_forget := fun _ h => List.mem_cons_of_mem _ (List.mem_append_right _ h)
set_option maxHeartbeats 4000000 in
set_option maxRecDepth 100000 in
theorem c_X6_forget (l : Launch) (G : va_G) (k : Nat → ClassId) (tL tM : Nat) (sK sV : Nat → Nat) (a_m : Nat) (a_m_state : Nat) (a_m_readPage : Nat) (a_m_tape : Nat) (a_m_cuts : Nat) (a_m_letters : Nat) (a_m_seen : Nat) (a_m_pointBy : Nat) (a_m_isKept : Nat) (a_m_lanes : Nat) (a_m_lengths : Nat) (a_m_sheetCells : Nat) (sz : Nat) (m_toldOnce : Int32) (m_taped : Int32) (m_fault : Int32) (m_broken : Int32) (m_brokenAt : Int32) (m_spot : Int32) (m_here : Int32) (m_token : Int32) (m_value : Int32) (m_silent : Int32) (m_greatest : Int32) (m_moves : Int32) (m_holders : Int32) (m_seenMany : Int32) (m_torn : Int32) (u1 : Int32) (out : Int32 × Int32) (h : p_X6_forget u1 m_seenMany = some out) : zMi l yX6_forget wsX6_forget 1 25 G k tL tM sK sV [.ref a_m, .int u1] [(a_m, .inr (6, [.ref a_m_state, .ref a_m_readPage, .int m_toldOnce, .ref a_m_tape, .int m_taped, .int m_fault, .int m_broken, .int m_brokenAt, .int m_spot, .int m_here, .int m_token, .int m_value, .ref a_m_cuts, .ref a_m_letters, .int m_silent, .int m_greatest, .int m_moves, .int m_holders, .ref a_m_seen, .int m_seenMany, .ref a_m_pointBy, .ref a_m_isKept, .ref a_m_lanes, .ref a_m_lengths, .ref a_m_sheetCells, .int m_torn]))] [(a_m, .inr (6, [.ref a_m_state, .ref a_m_readPage, .int m_toldOnce, .ref a_m_tape, .int m_taped, .int m_fault, .int m_broken, .int m_brokenAt, .int m_spot, .int m_here, .int m_token, .int m_value, .ref a_m_cuts, .ref a_m_letters, .int m_silent, .int m_greatest, .int m_moves, .int m_holders, .ref a_m_seen, .int out.2, .ref a_m_pointBy, .ref a_m_isKept, .ref a_m_lanes, .ref a_m_lengths, .ref a_m_sheetCells, .int m_torn]))] out.1 sz := by
  refine z_meti (cc := cX6_forget) (maxL := 3) (by decide) rfl (Nat.le_of_ble_eq_true rfl) ?_
  intro p e s m below meth c A Q H locs ls hx hb hml hts hown hA hK hE hret hP hD hS hl
  have hown : s.vm.findClass RX6 = some m.cls := hown
  have hl : lv_has ls 3 [(0, .ref a_m), (1, .int u1)] := hl
  unfold p_X6_forget at h
  refine lv_iload_n hx hb dX6_forget_0 rfl (lv_at hl 1 rfl) ?_
  refine lv_i2l (v := u1.toInt64) hx hb dX6_forget_1 rfl ?_
  refine lv_lconst (v := 0) hx hb dX6_forget_2 (by decide) ?_
  refine lv_aload_n hx hb dX6_forget_3 rfl (lv_at hl 0 rfl) ?_
  refine va_get (D := G) (ci := 6) (v := .int m_seenMany) (C := RX6) (T := TX6) (N := 26) hx hb hts iw_X6_forget_X6 hown hK hP 0 rfl rfl 19 (by decide) (hts (.fieldLink RX6 116 "SpireLeanModel" "seenMany" "I") (List.mem_of_getElem? (i := 1) rfl)) (fun _ h9 => h9) rfl dX6_forget_4 ?_
  refine lv_i2l (v := m_seenMany.toInt64) hx hb dX6_forget_7 rfl ?_
  obtain ⟨o1, hv, h⟩ := zb h
  refine z_goi (w2 := [(a_m, .inr (6, [.ref a_m_state, .ref a_m_readPage, .int m_toldOnce, .ref a_m_tape, .int m_taped, .int m_fault, .int m_broken, .int m_brokenAt, .int m_spot, .int m_here, .int m_token, .int m_value, .ref a_m_cuts, .ref a_m_letters, .int m_silent, .int m_greatest, .int m_moves, .int m_holders, .ref a_m_seen, .int m_seenMany, .ref a_m_pointBy, .ref a_m_isKept, .ref a_m_lanes, .ref a_m_lengths, .ref a_m_sheetCells, .int m_torn]))]) [] (va_runS (As := [.long u1.toInt64, .long (0 : Int64), .long m_seenMany.toInt64]) (rest := []) ⟨hx, hb, hml, hown, hts⟩ (c_X6_in l G k tL tM sK sV H.size u1.toInt64 (0 : Int64) m_seenMany.toInt64 o1 hv) (va_cwS 3 hts gX6_forget_X6_in rfl rfl rfl (by decide +kernel) ⟨Nat.le_of_ble_eq_true rfl, Nat.le_of_ble_eq_true rfl⟩) (z_preS (wc := []) [] hK hE hA hP hD hS (by decide) rfl) rfl rfl hl.1 rfl (lv_room (Nat.le_of_ble_eq_true rfl)) dX6_forget_8 ⟨Nat.le_refl _, Nat.le_refl _⟩) hA hP hD hS rfl rfl rfl rfl (fun H locs hP hD hS => ?_)
  refine lv_if_ne (tgt := 16) hx hb dX6_forget_11 (by decide) (fun c2 => ?_) (fun c2 => ?_)
  · have h := zif c2 h
    refine lv_aload_n hx hb dX6_forget_16 rfl (lv_at hl 0 rfl) ?_
    refine va_get (D := G) (ci := 6) (v := .int m_seenMany) (C := RX6) (T := TX6) (N := 26) hx hb hts iw_X6_forget_X6 hown hK hP 0 rfl rfl 19 (by decide) (hts (.fieldLink RX6 116 "SpireLeanModel" "seenMany" "I") (List.mem_of_getElem? (i := 1) rfl)) (fun _ h9 => h9) rfl dX6_forget_17 ?_
    refine lv_istore_n (lv' := [(2, .int m_seenMany), (0, .ref a_m), (1, .int u1)]) hx hb dX6_forget_20 rfl hl (by decide) rfl (fun ls hl => ?_)
    refine lv_aload_n hx hb dX6_forget_21 rfl (lv_at hl 1 rfl) ?_
    refine lv_iload_n hx hb dX6_forget_22 rfl (lv_at hl 2 rfl) ?_
    refine va_put (D := G) (ci := 6) (v := .int u1) (ty := .int) (C := RX6) (T := TX6) (N := 26) hx hb hts iw_X6_forget_X6 tyX6 tyX6_ok nmX6 hown hK hP hD hS 0 rfl rfl 19 (by decide) (hts (.fieldLink RX6 116 "SpireLeanModel" "seenMany" "I") (List.mem_of_getElem? (i := 1) rfl)) (fun _ h9 => h9) rfl (tyX6_ok 19 (by decide)) rfl rfl (Nat.le_of_ble_eq_true rfl) dX6_forget_23 (fun H locs hP hD hS => ?_)
    have hP : va_P G vwCl [(a_m, .inr (6, [.ref a_m_state, .ref a_m_readPage, .int m_toldOnce, .ref a_m_tape, .int m_taped, .int m_fault, .int m_broken, .int m_brokenAt, .int m_spot, .int m_here, .int m_token, .int m_value, .ref a_m_cuts, .ref a_m_letters, .int m_silent, .int m_greatest, .int m_moves, .int m_holders, .ref a_m_seen, .int u1, .ref a_m_pointBy, .ref a_m_isKept, .ref a_m_lanes, .ref a_m_lengths, .ref a_m_sheetCells, .int m_torn]))] H := hP
    have hD : va_D A [(a_m, .inr (6, [.ref a_m_state, .ref a_m_readPage, .int m_toldOnce, .ref a_m_tape, .int m_taped, .int m_fault, .int m_broken, .int m_brokenAt, .int m_spot, .int m_here, .int m_token, .int m_value, .ref a_m_cuts, .ref a_m_letters, .int m_silent, .int m_greatest, .int m_moves, .int m_holders, .ref a_m_seen, .int u1, .ref a_m_pointBy, .ref a_m_isKept, .ref a_m_lanes, .ref a_m_lengths, .ref a_m_sheetCells, .int m_torn]))] := hD
    refine lv_iload_n hx hb dX6_forget_26 rfl (lv_at hl 0 rfl) ?_
    have hr := (zs h)
    subst hr
    exact hret H locs ls 27 hP hS dX6_forget_27
  · have h := zit c2 h
    refine lv_iconst (v := (-1)) hx hb dX6_forget_14 (by decide) ?_
    have hr := (zs h)
    subst hr
    exact hret H locs ls 15 hP hS dX6_forget_15
theorem iw_X6_isAsSeen_X6 : ∀ w ∈ wsX60, w ∈ wsX6_isAsSeen := fun _ h => List.mem_cons_of_mem _ (List.mem_append_right _ h)
set_option maxHeartbeats 4000000 in
set_option maxRecDepth 100000 in
theorem c_X6_isAsSeen (l : Launch) (G : va_G) (k : Nat → ClassId) (tL tM : Nat) (sK sV : Nat → Nat) (a_m : Nat) (a_m_state : Nat) (a_m_readPage : Nat) (a_m_tape : Nat) (a_m_cuts : Nat) (a_m_letters : Nat) (a_m_seen : Nat) (a_m_pointBy : Nat) (a_m_isKept : Nat) (a_m_lanes : Nat) (a_m_lengths : Nat) (a_m_sheetCells : Nat) (sz : Nat) (m_toldOnce : Int32) (m_taped : Int32) (m_fault : Int32) (m_broken : Int32) (m_brokenAt : Int32) (m_spot : Int32) (m_here : Int32) (m_token : Int32) (m_value : Int32) (m_silent : Int32) (m_greatest : Int32) (m_moves : Int32) (m_holders : Int32) (m_seenMany : Int32) (m_torn : Int32) (m_state : Nat → Int32) (m_seen : Nat → Int32) (m_pointBy : Nat → Int32) (u1 : Int32) (out : Int32 × (Nat → Int32) × (Nat → Int32)) (h : p_X6_isAsSeen u1 m_silent m_seenMany m_state m_seen m_pointBy = some out) : zMi l yX6_isAsSeen wsX6_isAsSeen 6 131 G k tL tM sK sV [.ref a_m, .int u1] [(a_m, .inr (6, [.ref a_m_state, .ref a_m_readPage, .int m_toldOnce, .ref a_m_tape, .int m_taped, .int m_fault, .int m_broken, .int m_brokenAt, .int m_spot, .int m_here, .int m_token, .int m_value, .ref a_m_cuts, .ref a_m_letters, .int m_silent, .int m_greatest, .int m_moves, .int m_holders, .ref a_m_seen, .int m_seenMany, .ref a_m_pointBy, .ref a_m_isKept, .ref a_m_lanes, .ref a_m_lengths, .ref a_m_sheetCells, .int m_torn])), (a_m_state, .inl (k 0, 156, .inl m_state)), (a_m_seen, .inl (k 0, 12, .inl m_seen)), (a_m_pointBy, .inl (k 0, 651, .inl m_pointBy))] [(a_m, .inr (6, [.ref a_m_state, .ref a_m_readPage, .int m_toldOnce, .ref a_m_tape, .int m_taped, .int m_fault, .int m_broken, .int m_brokenAt, .int m_spot, .int m_here, .int m_token, .int m_value, .ref a_m_cuts, .ref a_m_letters, .int m_silent, .int m_greatest, .int m_moves, .int m_holders, .ref a_m_seen, .int m_seenMany, .ref a_m_pointBy, .ref a_m_isKept, .ref a_m_lanes, .ref a_m_lengths, .ref a_m_sheetCells, .int m_torn])), (a_m_state, .inl (k 0, 156, .inl out.2.1)), (a_m_seen, .inl (k 0, 12, .inl m_seen)), (a_m_pointBy, .inl (k 0, 651, .inl out.2.2))] out.1 sz := by
  refine z_metz (cc := cX6_isAsSeen) (maxL := 5) (by decide) rfl (Nat.le_of_ble_eq_true rfl) ?_
  intro p e s m below meth c A Q H locs ls hx hb hml hts hown hA hK hE hret hP hD hS hl
  have hown : s.vm.findClass RX6 = some m.cls := hown
  have hl : lv_has ls 5 [(0, .ref a_m), (1, .int u1)] := hl
  unfold p_X6_isAsSeen at h
  refine lv_aload_n hx hb dX6_isAsSeen_0 rfl (lv_at hl 0 rfl) ?_
  refine lv_iconst (v := 0) hx hb dX6_isAsSeen_1 (by decide) ?_
  refine lv_bipush (v := 104) hx hb dX6_isAsSeen_2 (by decide) ?_
  obtain ⟨o1, hv, h⟩ := zb h
  refine z_gov (w2 := [(a_m, .inr (6, [.ref a_m_state, .ref a_m_readPage, .int m_toldOnce, .ref a_m_tape, .int m_taped, .int m_fault, .int m_broken, .int m_brokenAt, .int m_spot, .int m_here, .int m_token, .int m_value, .ref a_m_cuts, .ref a_m_letters, .int m_silent, .int m_greatest, .int m_moves, .int m_holders, .ref a_m_seen, .int m_seenMany, .ref a_m_pointBy, .ref a_m_isKept, .ref a_m_lanes, .ref a_m_lengths, .ref a_m_sheetCells, .int m_torn])), (a_m_state, .inl (k 0, 156, .inl o1)), (a_m_seen, .inl (k 0, 12, .inl m_seen)), (a_m_pointBy, .inl (k 0, 651, .inl m_pointBy))]) [0, 1] (va_runV (As := [.int (0 : Int32), .int (104 : Int32)]) (rest := []) ⟨hx, hb, hml, hown, hts⟩ (c_X6_copies l G k tL tM sK sV a_m a_m_state a_m_readPage a_m_tape a_m_cuts a_m_letters a_m_seen a_m_pointBy a_m_isKept a_m_lanes a_m_lengths a_m_sheetCells H.size m_toldOnce m_taped m_fault m_broken m_brokenAt m_spot m_here m_token m_value m_silent m_greatest m_moves m_holders m_seenMany m_torn m_state (0 : Int32) (104 : Int32) o1 hv) (cwV 2 hts gX6_isAsSeen_X6_copies rfl rfl rfl (by decide +kernel) ⟨Nat.le_of_ble_eq_true rfl, Nat.le_of_ble_eq_true rfl⟩) (z_preV (wc := [(a_m, .inr (6, [.ref a_m_state, .ref a_m_readPage, .int m_toldOnce, .ref a_m_tape, .int m_taped, .int m_fault, .int m_broken, .int m_brokenAt, .int m_spot, .int m_here, .int m_token, .int m_value, .ref a_m_cuts, .ref a_m_letters, .int m_silent, .int m_greatest, .int m_moves, .int m_holders, .ref a_m_seen, .int m_seenMany, .ref a_m_pointBy, .ref a_m_isKept, .ref a_m_lanes, .ref a_m_lengths, .ref a_m_sheetCells, .int m_torn])), (a_m_state, .inl (k 0, 156, .inl m_state))]) [0, 1] 0 6 hK hE hA hP hD hS (by decide) rfl rfl rfl) rfl rfl hl.1 rfl (lv_room (Nat.le_of_ble_eq_true rfl)) dX6_isAsSeen_4 ⟨Nat.le_refl _, Nat.le_refl _⟩) hA hP hD hS rfl rfl rfl rfl (fun H locs hP hD hS => ?_)
  refine lv_iconst (v := 1) hx hb dX6_isAsSeen_7 (by decide) ?_
  refine lv_istore_n (lv' := [(2, .int (1 : Int32)), (0, .ref a_m), (1, .int u1)]) hx hb dX6_isAsSeen_8 rfl hl (by decide) rfl (fun ls hl => ?_)
  refine lv_iconst (v := 0) hx hb dX6_isAsSeen_9 (by decide) ?_
  refine lv_istore_n (lv' := [(3, .int (0 : Int32)), (2, .int (1 : Int32)), (0, .ref a_m), (1, .int u1)]) hx hb dX6_isAsSeen_10 rfl hl (by decide) rfl (fun ls hl => ?_)
  obtain ⟨e6, hv, h⟩ := zb h
  have hJ5 : ∀ (e6_ : Int32 × (Nat → Int32) × (Nat → Int32)), e6_ = e6 → zW p l e (zR 6 131) s m ([.ref a_m, .int u1] : List Value).toArray below meth c Q 5 A G [(a_m, .inr (6, [.ref a_m_state, .ref a_m_readPage, .int m_toldOnce, .ref a_m_tape, .int m_taped, .int m_fault, .int m_broken, .int m_brokenAt, .int m_spot, .int m_here, .int m_token, .int m_value, .ref a_m_cuts, .ref a_m_letters, .int m_silent, .int m_greatest, .int m_moves, .int m_holders, .ref a_m_seen, .int m_seenMany, .ref a_m_pointBy, .ref a_m_isKept, .ref a_m_lanes, .ref a_m_lengths, .ref a_m_sheetCells, .int m_torn])), (a_m_state, .inl (k 0, 156, .inl e6_.2.1)), (a_m_seen, .inl (k 0, 12, .inl m_seen)), (a_m_pointBy, .inl (k 0, 651, .inl e6_.2.2))] [(2, .int e6_.1)] 107 [] := by
    intro e6_ hz
    subst hz
    intro H locs ls hP hD hS hl
    refine lv_iload_n hx hb dX6_isAsSeen_107 rfl (lv_at hl 0 rfl) ?_
    obtain ⟨v25, hv, h⟩ := zb h
    obtain ⟨hbit, hvv⟩ := z_bitS hv
    rw [hvv]
    have hr := (zs h)
    subst hr
    exact hret H locs ls 108 hbit hP hS dX6_isAsSeen_108
  refine z_lpW (Wh := fun (x2 : Int32 × Int32 × (Nat → Int32) × (Nat → Int32)) => zW p l e (zR 6 131) s m ([.ref a_m, .int u1] : List Value).toArray below meth c Q 5 A G [(a_m, .inr (6, [.ref a_m_state, .ref a_m_readPage, .int m_toldOnce, .ref a_m_tape, .int m_taped, .int m_fault, .int m_broken, .int m_brokenAt, .int m_spot, .int m_here, .int m_token, .int m_value, .ref a_m_cuts, .ref a_m_letters, .int m_silent, .int m_greatest, .int m_moves, .int m_holders, .ref a_m_seen, .int m_seenMany, .ref a_m_pointBy, .ref a_m_isKept, .ref a_m_lanes, .ref a_m_lengths, .ref a_m_sheetCells, .int m_torn])), (a_m_state, .inl (k 0, 156, .inl x2.2.2.1)), (a_m_seen, .inl (k 0, 12, .inl m_seen)), (a_m_pointBy, .inl (k 0, 651, .inl x2.2.2.2))] [(0, .ref a_m), (1, .int u1), (2, .int x2.1), (3, .int x2.2.1)] 11 []) ?_ 1000 _ hv H locs ls hP hD hS (lv_sub hl [2, 3, 1, 0] rfl)
  clear h
  intro x2 o h hC3 hX4 H locs ls hP hD hS hl
  unfold p_X6_isAsSeen_b11 at h
  refine lv_iload_n hx hb dX6_isAsSeen_11 rfl (lv_at hl 3 rfl) ?_
  refine lv_bipush (v := 30) hx hb dX6_isAsSeen_12 (by decide) ?_
  refine lv_icmp_gt (tgt := 107) hx hb dX6_isAsSeen_14 (by decide) (fun c24 => ?_) (fun c24 => ?_)
  · have h := zit c24 h
    exact hJ5 _ (hX4 _ (zs h)) H locs ls hP hD hS (lv_sub hl [2] rfl)
  · have h := zif c24 h
    refine lv_aload_n hx hb dX6_isAsSeen_17 rfl (lv_at hl 0 rfl) ?_
    refine va_get (D := G) (ci := 6) (v := .ref a_m_pointBy) (C := RX6) (T := TX6) (N := 26) hx hb hts iw_X6_isAsSeen_X6 hown hK hP 0 rfl rfl 20 (by decide) (hts (.fieldLink RX6 32 "SpireLeanModel" "pointBy" "[I") (List.mem_of_getElem? (i := 1) rfl)) (fun _ h9 => h9) rfl dX6_isAsSeen_18 ?_
    refine lv_bipush (v := 31) hx hb dX6_isAsSeen_21 (by decide) ?_
    refine lv_iload_n hx hb dX6_isAsSeen_23 rfl (lv_at hl 1 rfl) ?_
    refine lv_imul hx hb dX6_isAsSeen_24 ?_
    refine lv_iload_n hx hb dX6_isAsSeen_25 rfl (lv_at hl 3 rfl) ?_
    refine lv_iadd hx hb dX6_isAsSeen_26 ?_
    refine lv_aload_n hx hb dX6_isAsSeen_27 rfl (lv_at hl 0 rfl) ?_
    refine lv_bipush (v := 104) hx hb dX6_isAsSeen_28 (by decide) ?_
    obtain ⟨o8, hv, h⟩ := zb h
    refine z_goi (w2 := [(a_m, .inr (6, [.ref a_m_state, .ref a_m_readPage, .int m_toldOnce, .ref a_m_tape, .int m_taped, .int m_fault, .int m_broken, .int m_brokenAt, .int m_spot, .int m_here, .int m_token, .int m_value, .ref a_m_cuts, .ref a_m_letters, .int m_silent, .int m_greatest, .int m_moves, .int m_holders, .ref a_m_seen, .int m_seenMany, .ref a_m_pointBy, .ref a_m_isKept, .ref a_m_lanes, .ref a_m_lengths, .ref a_m_sheetCells, .int m_torn])), (a_m_state, .inl (k 0, 156, .inl x2.2.2.1)), (a_m_seen, .inl (k 0, 12, .inl m_seen)), (a_m_pointBy, .inl (k 0, 651, .inl x2.2.2.2))]) [0, 1] (va_runV (As := [.int (104 : Int32)]) (rest := [.int (((31 : Int32) * u1) + x2.2.1), .ref a_m_pointBy]) ⟨hx, hb, hml, hown, hts⟩ (c_X6_pointOn l G k tL tM sK sV a_m a_m_state a_m_readPage a_m_tape a_m_cuts a_m_letters a_m_seen a_m_pointBy a_m_isKept a_m_lanes a_m_lengths a_m_sheetCells H.size m_toldOnce m_taped m_fault m_broken m_brokenAt m_spot m_here m_token m_value m_silent m_greatest m_moves m_holders m_seenMany m_torn x2.2.2.1 (104 : Int32) o8 hv) (cwV 1 hts gX6_isAsSeen_X6_pointOn rfl rfl rfl (by decide +kernel) ⟨Nat.le_of_ble_eq_true rfl, Nat.le_of_ble_eq_true rfl⟩) (z_preV (wc := [(a_m, .inr (6, [.ref a_m_state, .ref a_m_readPage, .int m_toldOnce, .ref a_m_tape, .int m_taped, .int m_fault, .int m_broken, .int m_brokenAt, .int m_spot, .int m_here, .int m_token, .int m_value, .ref a_m_cuts, .ref a_m_letters, .int m_silent, .int m_greatest, .int m_moves, .int m_holders, .ref a_m_seen, .int m_seenMany, .ref a_m_pointBy, .ref a_m_isKept, .ref a_m_lanes, .ref a_m_lengths, .ref a_m_sheetCells, .int m_torn])), (a_m_state, .inl (k 0, 156, .inl x2.2.2.1))]) [0, 1] 0 6 hK hE hA hP hD hS (by decide) rfl rfl rfl) rfl rfl hl.1 rfl (lv_room (Nat.le_of_ble_eq_true rfl)) dX6_isAsSeen_30 ⟨Nat.le_refl _, Nat.le_refl _⟩) hA hP hD hS rfl rfl rfl rfl (fun H locs hP hD hS => ?_)
    obtain ⟨v9, hv, h⟩ := zb h
    refine z_iast hx hb hK hP hD hS 3 0 rfl rfl hv dX6_isAsSeen_33 (fun H locs hP hD hS => ?_)
    have hP : va_P G vwCl [(a_m, .inr (6, [.ref a_m_state, .ref a_m_readPage, .int m_toldOnce, .ref a_m_tape, .int m_taped, .int m_fault, .int m_broken, .int m_brokenAt, .int m_spot, .int m_here, .int m_token, .int m_value, .ref a_m_cuts, .ref a_m_letters, .int m_silent, .int m_greatest, .int m_moves, .int m_holders, .ref a_m_seen, .int m_seenMany, .ref a_m_pointBy, .ref a_m_isKept, .ref a_m_lanes, .ref a_m_lengths, .ref a_m_sheetCells, .int m_torn])), (a_m_state, .inl (k 0, 156, .inl x2.2.2.1)), (a_m_seen, .inl (k 0, 12, .inl m_seen)), (a_m_pointBy, .inl (k 0, 651, .inl v9))] H := hP
    have hD : va_D A [(a_m, .inr (6, [.ref a_m_state, .ref a_m_readPage, .int m_toldOnce, .ref a_m_tape, .int m_taped, .int m_fault, .int m_broken, .int m_brokenAt, .int m_spot, .int m_here, .int m_token, .int m_value, .ref a_m_cuts, .ref a_m_letters, .int m_silent, .int m_greatest, .int m_moves, .int m_holders, .ref a_m_seen, .int m_seenMany, .ref a_m_pointBy, .ref a_m_isKept, .ref a_m_lanes, .ref a_m_lengths, .ref a_m_sheetCells, .int m_torn])), (a_m_state, .inl (k 0, 156, .inl x2.2.2.1)), (a_m_seen, .inl (k 0, 12, .inl m_seen)), (a_m_pointBy, .inl (k 0, 651, .inl v9))] := hD
    refine lv_iconst (v := 0) hx hb dX6_isAsSeen_34 (by decide) ?_
    refine lv_istore (lv' := [(4, .int (0 : Int32)), (0, .ref a_m), (1, .int u1), (2, .int x2.1), (3, .int x2.2.1)]) hx hb dX6_isAsSeen_35 hl (by decide) rfl (fun ls hl => ?_)
    obtain ⟨e14, hv, h⟩ := zb h
    have hJ13 : ∀ (e14_ : Int32), e14_ = e14 → zW p l e (zR 6 131) s m ([.ref a_m, .int u1] : List Value).toArray below meth c Q 5 A G [(a_m, .inr (6, [.ref a_m_state, .ref a_m_readPage, .int m_toldOnce, .ref a_m_tape, .int m_taped, .int m_fault, .int m_broken, .int m_brokenAt, .int m_spot, .int m_here, .int m_token, .int m_value, .ref a_m_cuts, .ref a_m_letters, .int m_silent, .int m_greatest, .int m_moves, .int m_holders, .ref a_m_seen, .int m_seenMany, .ref a_m_pointBy, .ref a_m_isKept, .ref a_m_lanes, .ref a_m_lengths, .ref a_m_sheetCells, .int m_torn])), (a_m_state, .inl (k 0, 156, .inl x2.2.2.1)), (a_m_seen, .inl (k 0, 12, .inl m_seen)), (a_m_pointBy, .inl (k 0, 651, .inl v9))] [(0, .ref a_m), (1, .int u1), (2, .int e14_), (3, .int x2.2.1)] 95 [] := by
      intro e14_ hz
      subst hz
      intro H locs ls hP hD hS hl
      refine lv_aload_n hx hb dX6_isAsSeen_95 rfl (lv_at hl 0 rfl) ?_
      refine lv_bipush (v := 104) hx hb dX6_isAsSeen_96 (by decide) ?_
      obtain ⟨o23, hv, h⟩ := zb h
      refine z_gov (w2 := [(a_m, .inr (6, [.ref a_m_state, .ref a_m_readPage, .int m_toldOnce, .ref a_m_tape, .int m_taped, .int m_fault, .int m_broken, .int m_brokenAt, .int m_spot, .int m_here, .int m_token, .int m_value, .ref a_m_cuts, .ref a_m_letters, .int m_silent, .int m_greatest, .int m_moves, .int m_holders, .ref a_m_seen, .int m_seenMany, .ref a_m_pointBy, .ref a_m_isKept, .ref a_m_lanes, .ref a_m_lengths, .ref a_m_sheetCells, .int m_torn])), (a_m_state, .inl (k 0, 156, .inl o23)), (a_m_seen, .inl (k 0, 12, .inl m_seen)), (a_m_pointBy, .inl (k 0, 651, .inl v9))]) [0, 1] (va_runV (As := [.int (104 : Int32)]) (rest := []) ⟨hx, hb, hml, hown, hts⟩ (c_X6_yearOn l G k tL tM sK sV a_m a_m_state a_m_readPage a_m_tape a_m_cuts a_m_letters a_m_seen a_m_pointBy a_m_isKept a_m_lanes a_m_lengths a_m_sheetCells H.size m_toldOnce m_taped m_fault m_broken m_brokenAt m_spot m_here m_token m_value m_silent m_greatest m_moves m_holders m_seenMany m_torn x2.2.2.1 (104 : Int32) o23 hv) (cwV 1 hts gX6_isAsSeen_X6_yearOn rfl rfl rfl (by decide +kernel) ⟨Nat.le_of_ble_eq_true rfl, Nat.le_of_ble_eq_true rfl⟩) (z_preV (wc := [(a_m, .inr (6, [.ref a_m_state, .ref a_m_readPage, .int m_toldOnce, .ref a_m_tape, .int m_taped, .int m_fault, .int m_broken, .int m_brokenAt, .int m_spot, .int m_here, .int m_token, .int m_value, .ref a_m_cuts, .ref a_m_letters, .int m_silent, .int m_greatest, .int m_moves, .int m_holders, .ref a_m_seen, .int m_seenMany, .ref a_m_pointBy, .ref a_m_isKept, .ref a_m_lanes, .ref a_m_lengths, .ref a_m_sheetCells, .int m_torn])), (a_m_state, .inl (k 0, 156, .inl x2.2.2.1))]) [0, 1] 0 6 hK hE hA hP hD hS (by decide) rfl rfl rfl) rfl rfl hl.1 rfl (lv_room (Nat.le_of_ble_eq_true rfl)) dX6_isAsSeen_98 ⟨Nat.le_refl _, Nat.le_refl _⟩) hA hP hD hS rfl rfl rfl rfl (fun H locs hP hD hS => ?_)
      refine lv_iinc (v := x2.2.1 + (1 : Int32)) (lv' := [(3, .int (x2.2.1 + (1 : Int32))), (0, .ref a_m), (1, .int u1), (2, .int e14_)]) hx hb dX6_isAsSeen_101 hl (k := 3) rfl rfl (by decide) rfl (fun ls hl => ?_)
      refine lv_goto (tgt := 11) hx hb dX6_isAsSeen_104 (by decide) ?_
      exact hC3 _ (zs h) H locs ls hP hD hS (lv_sub hl [1, 2, 3, 0] rfl)
    refine z_lpW (Wh := fun (x10 : Int32 × Int32) => zW p l e (zR 6 131) s m ([.ref a_m, .int u1] : List Value).toArray below meth c Q 5 A G [(a_m, .inr (6, [.ref a_m_state, .ref a_m_readPage, .int m_toldOnce, .ref a_m_tape, .int m_taped, .int m_fault, .int m_broken, .int m_brokenAt, .int m_spot, .int m_here, .int m_token, .int m_value, .ref a_m_cuts, .ref a_m_letters, .int m_silent, .int m_greatest, .int m_moves, .int m_holders, .ref a_m_seen, .int m_seenMany, .ref a_m_pointBy, .ref a_m_isKept, .ref a_m_lanes, .ref a_m_lengths, .ref a_m_sheetCells, .int m_torn])), (a_m_state, .inl (k 0, 156, .inl x2.2.2.1)), (a_m_seen, .inl (k 0, 12, .inl m_seen)), (a_m_pointBy, .inl (k 0, 651, .inl v9))] [(0, .ref a_m), (1, .int u1), (2, .int x10.1), (3, .int x2.2.1), (4, .int x10.2)] 37 []) ?_ 1000 _ hv H locs ls hP hD hS (lv_sub hl [1, 2, 3, 4, 0] rfl)
    clear h
    intro x10 o h hC11 hX12 H locs ls hP hD hS hl
    unfold p_X6_isAsSeen_b37 at h
    refine lv_iload hx hb dX6_isAsSeen_37 (lv_at hl 4 rfl) ?_
    refine lv_aload_n hx hb dX6_isAsSeen_39 rfl (lv_at hl 0 rfl) ?_
    refine va_get (D := G) (ci := 6) (v := .int m_seenMany) (C := RX6) (T := TX6) (N := 26) hx hb hts iw_X6_isAsSeen_X6 hown hK hP 0 rfl rfl 19 (by decide) (hts (.fieldLink RX6 116 "SpireLeanModel" "seenMany" "I") (List.mem_of_getElem? (i := 2) rfl)) (fun _ h9 => h9) rfl dX6_isAsSeen_40 ?_
    refine lv_icmp_ge (tgt := 95) hx hb dX6_isAsSeen_43 (by decide) (fun c22 => ?_) (fun c22 => ?_)
    · have h := zit c22 h
      exact hJ13 _ (hX12 _ (zs h)) H locs ls hP hD hS (lv_sub hl [0, 1, 2, 3] rfl)
    · have h := zif c22 h
      refine lv_iload_n hx hb dX6_isAsSeen_46 rfl (lv_at hl 2 rfl) ?_
      refine lv_if_eq (tgt := 87) hx hb dX6_isAsSeen_47 (by decide) (fun c21 => ?_) (fun c21 => ?_)
      · have h := zit c21 h
        refine lv_iconst (v := 0) hx hb dX6_isAsSeen_87 (by decide) ?_
        refine lv_istore_n (lv' := [(2, .int (0 : Int32)), (0, .ref a_m), (1, .int u1), (3, .int x2.2.1), (4, .int x10.2)]) hx hb dX6_isAsSeen_88 rfl hl (by decide) rfl (fun ls hl => ?_)
        refine lv_iinc (v := x10.2 + (1 : Int32)) (lv' := [(4, .int (x10.2 + (1 : Int32))), (2, .int (0 : Int32)), (0, .ref a_m), (1, .int u1), (3, .int x2.2.1)]) hx hb dX6_isAsSeen_89 hl (k := 4) rfl rfl (by decide) rfl (fun ls hl => ?_)
        refine lv_goto (tgt := 37) hx hb dX6_isAsSeen_92 (by decide) ?_
        exact hC11 _ (zs h) H locs ls hP hD hS (lv_sub hl [2, 3, 1, 4, 0] rfl)
      · have h := zif c21 h
        refine lv_aload_n hx hb dX6_isAsSeen_50 rfl (lv_at hl 0 rfl) ?_
        refine va_get (D := G) (ci := 6) (v := .ref a_m_seen) (C := RX6) (T := TX6) (N := 26) hx hb hts iw_X6_isAsSeen_X6 hown hK hP 0 rfl rfl 18 (by decide) (hts (.fieldLink RX6 29 "SpireLeanModel" "seen" "[I") (List.mem_of_getElem? (i := 3) rfl)) (fun _ h9 => h9) rfl dX6_isAsSeen_51 ?_
        refine lv_iconst (v := 2) hx hb dX6_isAsSeen_54 (by decide) ?_
        refine lv_iload hx hb dX6_isAsSeen_55 (lv_at hl 4 rfl) ?_
        refine lv_imul hx hb dX6_isAsSeen_57 ?_
        obtain ⟨v16, hv, h⟩ := zb h
        refine z_iald hx hb hK hP 2 0 rfl rfl hv dX6_isAsSeen_58 ?_
        refine lv_iload_n hx hb dX6_isAsSeen_59 rfl (lv_at hl 3 rfl) ?_
        refine lv_icmp_ne (tgt := 83) hx hb dX6_isAsSeen_60 (by decide) (fun c20 => ?_) (fun c20 => ?_)
        · have h := zif c20 h
          refine lv_iconst (v := 1) hx hb dX6_isAsSeen_83 (by decide) ?_
          refine lv_goto (tgt := 88) hx hb dX6_isAsSeen_84 (by decide) ?_
          refine lv_istore_n (lv' := [(2, .int (1 : Int32)), (0, .ref a_m), (1, .int u1), (3, .int x2.2.1), (4, .int x10.2)]) hx hb dX6_isAsSeen_88 rfl hl (by decide) rfl (fun ls hl => ?_)
          refine lv_iinc (v := x10.2 + (1 : Int32)) (lv' := [(4, .int (x10.2 + (1 : Int32))), (2, .int (1 : Int32)), (0, .ref a_m), (1, .int u1), (3, .int x2.2.1)]) hx hb dX6_isAsSeen_89 hl (k := 4) rfl rfl (by decide) rfl (fun ls hl => ?_)
          refine lv_goto (tgt := 37) hx hb dX6_isAsSeen_92 (by decide) ?_
          exact hC11 _ (zs h) H locs ls hP hD hS (lv_sub hl [2, 3, 1, 4, 0] rfl)
        · have h := zit c20 h
          refine lv_aload_n hx hb dX6_isAsSeen_63 rfl (lv_at hl 0 rfl) ?_
          refine lv_bipush (v := 104) hx hb dX6_isAsSeen_64 (by decide) ?_
          obtain ⟨o17, hv, h⟩ := zb h
          refine z_goi (w2 := [(a_m, .inr (6, [.ref a_m_state, .ref a_m_readPage, .int m_toldOnce, .ref a_m_tape, .int m_taped, .int m_fault, .int m_broken, .int m_brokenAt, .int m_spot, .int m_here, .int m_token, .int m_value, .ref a_m_cuts, .ref a_m_letters, .int m_silent, .int m_greatest, .int m_moves, .int m_holders, .ref a_m_seen, .int m_seenMany, .ref a_m_pointBy, .ref a_m_isKept, .ref a_m_lanes, .ref a_m_lengths, .ref a_m_sheetCells, .int m_torn])), (a_m_state, .inl (k 0, 156, .inl x2.2.2.1)), (a_m_seen, .inl (k 0, 12, .inl m_seen)), (a_m_pointBy, .inl (k 0, 651, .inl v9))]) [0, 1] (va_runV (As := [.int (104 : Int32)]) (rest := []) ⟨hx, hb, hml, hown, hts⟩ (c_X6_pointOn l G k tL tM sK sV a_m a_m_state a_m_readPage a_m_tape a_m_cuts a_m_letters a_m_seen a_m_pointBy a_m_isKept a_m_lanes a_m_lengths a_m_sheetCells H.size m_toldOnce m_taped m_fault m_broken m_brokenAt m_spot m_here m_token m_value m_silent m_greatest m_moves m_holders m_seenMany m_torn x2.2.2.1 (104 : Int32) o17 hv) (cwV 1 hts gX6_isAsSeen_X6_pointOn rfl rfl rfl (by decide +kernel) ⟨Nat.le_of_ble_eq_true rfl, Nat.le_of_ble_eq_true rfl⟩) (z_preV (wc := [(a_m, .inr (6, [.ref a_m_state, .ref a_m_readPage, .int m_toldOnce, .ref a_m_tape, .int m_taped, .int m_fault, .int m_broken, .int m_brokenAt, .int m_spot, .int m_here, .int m_token, .int m_value, .ref a_m_cuts, .ref a_m_letters, .int m_silent, .int m_greatest, .int m_moves, .int m_holders, .ref a_m_seen, .int m_seenMany, .ref a_m_pointBy, .ref a_m_isKept, .ref a_m_lanes, .ref a_m_lengths, .ref a_m_sheetCells, .int m_torn])), (a_m_state, .inl (k 0, 156, .inl x2.2.2.1))]) [0, 1] 0 6 hK hE hA hP hD hS (by decide) rfl rfl rfl) rfl rfl hl.1 rfl (lv_room (Nat.le_of_ble_eq_true rfl)) dX6_isAsSeen_66 ⟨Nat.le_refl _, Nat.le_refl _⟩) hA hP hD hS rfl rfl rfl rfl (fun H locs hP hD hS => ?_)
          refine lv_aload_n hx hb dX6_isAsSeen_69 rfl (lv_at hl 0 rfl) ?_
          refine va_get (D := G) (ci := 6) (v := .ref a_m_seen) (C := RX6) (T := TX6) (N := 26) hx hb hts iw_X6_isAsSeen_X6 hown hK hP 0 rfl rfl 18 (by decide) (hts (.fieldLink RX6 29 "SpireLeanModel" "seen" "[I") (List.mem_of_getElem? (i := 3) rfl)) (fun _ h9 => h9) rfl dX6_isAsSeen_70 ?_
          refine lv_iconst (v := 2) hx hb dX6_isAsSeen_73 (by decide) ?_
          refine lv_iload hx hb dX6_isAsSeen_74 (lv_at hl 4 rfl) ?_
          refine lv_imul hx hb dX6_isAsSeen_76 ?_
          refine lv_iconst (v := 1) hx hb dX6_isAsSeen_77 (by decide) ?_
          refine lv_iadd hx hb dX6_isAsSeen_78 ?_
          obtain ⟨v18, hv, h⟩ := zb h
          refine z_iald hx hb hK hP 2 0 rfl rfl hv dX6_isAsSeen_79 ?_
          refine lv_icmp_ne (tgt := 87) hx hb dX6_isAsSeen_80 (by decide) (fun c19 => ?_) (fun c19 => ?_)
          · have h := zif c19 h
            refine lv_iconst (v := 0) hx hb dX6_isAsSeen_87 (by decide) ?_
            refine lv_istore_n (lv' := [(2, .int (0 : Int32)), (0, .ref a_m), (1, .int u1), (3, .int x2.2.1), (4, .int x10.2)]) hx hb dX6_isAsSeen_88 rfl hl (by decide) rfl (fun ls hl => ?_)
            refine lv_iinc (v := x10.2 + (1 : Int32)) (lv' := [(4, .int (x10.2 + (1 : Int32))), (2, .int (0 : Int32)), (0, .ref a_m), (1, .int u1), (3, .int x2.2.1)]) hx hb dX6_isAsSeen_89 hl (k := 4) rfl rfl (by decide) rfl (fun ls hl => ?_)
            refine lv_goto (tgt := 37) hx hb dX6_isAsSeen_92 (by decide) ?_
            exact hC11 _ (zs h) H locs ls hP hD hS (lv_sub hl [2, 3, 1, 4, 0] rfl)
          · have h := zit c19 h
            refine lv_iconst (v := 1) hx hb dX6_isAsSeen_83 (by decide) ?_
            refine lv_goto (tgt := 88) hx hb dX6_isAsSeen_84 (by decide) ?_
            refine lv_istore_n (lv' := [(2, .int (1 : Int32)), (0, .ref a_m), (1, .int u1), (3, .int x2.2.1), (4, .int x10.2)]) hx hb dX6_isAsSeen_88 rfl hl (by decide) rfl (fun ls hl => ?_)
            refine lv_iinc (v := x10.2 + (1 : Int32)) (lv' := [(4, .int (x10.2 + (1 : Int32))), (2, .int (1 : Int32)), (0, .ref a_m), (1, .int u1), (3, .int x2.2.1)]) hx hb dX6_isAsSeen_89 hl (k := 4) rfl rfl (by decide) rfl (fun ls hl => ?_)
            refine lv_goto (tgt := 37) hx hb dX6_isAsSeen_92 (by decide) ?_
            exact hC11 _ (zs h) H locs ls hP hD hS (lv_sub hl [2, 3, 1, 4, 0] rfl)
theorem iw_X6_kinds_X6 : ∀ w ∈ wsX60, w ∈ wsX6_kinds := fun _ h => List.mem_cons_of_mem _ (List.mem_append_right _ h)
set_option maxHeartbeats 4000000 in
set_option maxRecDepth 100000 in
theorem c_X6_kinds (l : Launch) (G : va_G) (k : Nat → ClassId) (tL tM : Nat) (sK sV : Nat → Nat) (a_m : Nat) (a_m_state : Nat) (a_m_readPage : Nat) (a_m_tape : Nat) (a_m_cuts : Nat) (a_m_letters : Nat) (a_m_seen : Nat) (a_m_pointBy : Nat) (a_m_isKept : Nat) (a_m_lanes : Nat) (a_m_lengths : Nat) (a_m_sheetCells : Nat) (sz : Nat) (m_toldOnce : Int32) (m_taped : Int32) (m_fault : Int32) (m_broken : Int32) (m_brokenAt : Int32) (m_spot : Int32) (m_here : Int32) (m_token : Int32) (m_value : Int32) (m_silent : Int32) (m_greatest : Int32) (m_moves : Int32) (m_holders : Int32) (m_seenMany : Int32) (m_torn : Int32) (m_state : Nat → Int32) (m_seen : Nat → Int32) (m_pointBy : Nat → Int32) (u1 : Int32) (out : Int32 × (Nat → Int32) × (Nat → Int32)) (h : p_X6_kinds u1 m_silent m_seenMany m_state m_seen m_pointBy = some out) : zMi l yX6_kinds wsX6_kinds 7 155 G k tL tM sK sV [.ref a_m, .int u1] [(a_m, .inr (6, [.ref a_m_state, .ref a_m_readPage, .int m_toldOnce, .ref a_m_tape, .int m_taped, .int m_fault, .int m_broken, .int m_brokenAt, .int m_spot, .int m_here, .int m_token, .int m_value, .ref a_m_cuts, .ref a_m_letters, .int m_silent, .int m_greatest, .int m_moves, .int m_holders, .ref a_m_seen, .int m_seenMany, .ref a_m_pointBy, .ref a_m_isKept, .ref a_m_lanes, .ref a_m_lengths, .ref a_m_sheetCells, .int m_torn])), (a_m_state, .inl (k 0, 156, .inl m_state)), (a_m_seen, .inl (k 0, 12, .inl m_seen)), (a_m_pointBy, .inl (k 0, 651, .inl m_pointBy))] [(a_m, .inr (6, [.ref a_m_state, .ref a_m_readPage, .int m_toldOnce, .ref a_m_tape, .int m_taped, .int m_fault, .int m_broken, .int m_brokenAt, .int m_spot, .int m_here, .int m_token, .int m_value, .ref a_m_cuts, .ref a_m_letters, .int m_silent, .int m_greatest, .int m_moves, .int m_holders, .ref a_m_seen, .int m_seenMany, .ref a_m_pointBy, .ref a_m_isKept, .ref a_m_lanes, .ref a_m_lengths, .ref a_m_sheetCells, .int m_torn])), (a_m_state, .inl (k 0, 156, .inl out.2.1)), (a_m_seen, .inl (k 0, 12, .inl m_seen)), (a_m_pointBy, .inl (k 0, 651, .inl out.2.2))] out.1 sz := by
  refine z_meti (cc := cX6_kinds) (maxL := 5) (by decide) rfl (Nat.le_of_ble_eq_true rfl) ?_
  intro p e s m below meth c A Q H locs ls hx hb hml hts hown hA hK hE hret hP hD hS hl
  have hown : s.vm.findClass RX6 = some m.cls := hown
  have hl : lv_has ls 5 [(0, .ref a_m), (1, .int u1)] := hl
  unfold p_X6_kinds at h
  refine lv_aload_n hx hb dX6_kinds_0 rfl (lv_at hl 0 rfl) ?_
  refine lv_iload_n hx hb dX6_kinds_1 rfl (lv_at hl 1 rfl) ?_
  obtain ⟨o1, hv, h⟩ := zb h
  refine z_goi (w2 := [(a_m, .inr (6, [.ref a_m_state, .ref a_m_readPage, .int m_toldOnce, .ref a_m_tape, .int m_taped, .int m_fault, .int m_broken, .int m_brokenAt, .int m_spot, .int m_here, .int m_token, .int m_value, .ref a_m_cuts, .ref a_m_letters, .int m_silent, .int m_greatest, .int m_moves, .int m_holders, .ref a_m_seen, .int m_seenMany, .ref a_m_pointBy, .ref a_m_isKept, .ref a_m_lanes, .ref a_m_lengths, .ref a_m_sheetCells, .int m_torn])), (a_m_state, .inl (k 0, 156, .inl m_state)), (a_m_seen, .inl (k 0, 12, .inl m_seen)), (a_m_pointBy, .inl (k 0, 651, .inl m_pointBy))]) [0, 1] (va_runV (As := [.int u1]) (rest := []) ⟨hx, hb, hml, hown, hts⟩ (c_X6_isDraw l G k tL tM sK sV a_m a_m_state a_m_readPage a_m_tape a_m_cuts a_m_letters a_m_seen a_m_pointBy a_m_isKept a_m_lanes a_m_lengths a_m_sheetCells H.size m_toldOnce m_taped m_fault m_broken m_brokenAt m_spot m_here m_token m_value m_silent m_greatest m_moves m_holders m_seenMany m_torn m_state u1 o1 hv) (cwV 1 hts gX6_kinds_X6_isDraw rfl rfl rfl (by decide +kernel) ⟨Nat.le_of_ble_eq_true rfl, Nat.le_of_ble_eq_true rfl⟩) (z_preV (wc := [(a_m, .inr (6, [.ref a_m_state, .ref a_m_readPage, .int m_toldOnce, .ref a_m_tape, .int m_taped, .int m_fault, .int m_broken, .int m_brokenAt, .int m_spot, .int m_here, .int m_token, .int m_value, .ref a_m_cuts, .ref a_m_letters, .int m_silent, .int m_greatest, .int m_moves, .int m_holders, .ref a_m_seen, .int m_seenMany, .ref a_m_pointBy, .ref a_m_isKept, .ref a_m_lanes, .ref a_m_lengths, .ref a_m_sheetCells, .int m_torn])), (a_m_state, .inl (k 0, 156, .inl m_state))]) [0, 1] 0 6 hK hE hA hP hD hS (by decide) rfl rfl rfl) rfl rfl hl.1 rfl (lv_room (Nat.le_of_ble_eq_true rfl)) dX6_kinds_2 ⟨Nat.le_refl _, Nat.le_refl _⟩) hA hP hD hS rfl rfl rfl rfl (fun H locs hP hD hS => ?_)
  refine lv_if_ne (tgt := 10) hx hb dX6_kinds_5 (by decide) (fun c14 => ?_) (fun c14 => ?_)
  · have h := zif c14 h
    refine lv_aload_n hx hb dX6_kinds_10 rfl (lv_at hl 0 rfl) ?_
    refine va_get (D := G) (ci := 6) (v := .ref a_m_state) (C := RX6) (T := TX6) (N := 26) hx hb hts iw_X6_kinds_X6 hown hK hP 0 rfl rfl 0 (by decide) (hts (.fieldLink RX6 7 "SpireLeanModel" "state" "[I") (List.mem_of_getElem? (i := 1) rfl)) (fun _ h9 => h9) rfl dX6_kinds_11 ?_
    refine lv_iload_n hx hb dX6_kinds_14 rfl (lv_at hl 1 rfl) ?_
    obtain ⟨v2, hv, h⟩ := zb h
    refine z_iald hx hb hK hP 1 0 rfl rfl hv dX6_kinds_15 ?_
    refine lv_istore_n (lv' := [(2, .int v2), (0, .ref a_m), (1, .int u1)]) hx hb dX6_kinds_16 rfl hl (by decide) rfl (fun ls hl => ?_)
    refine lv_iconst (v := 0) hx hb dX6_kinds_17 (by decide) ?_
    refine lv_istore_n (lv' := [(3, .int (0 : Int32)), (2, .int v2), (0, .ref a_m), (1, .int u1)]) hx hb dX6_kinds_18 rfl hl (by decide) rfl (fun ls hl => ?_)
    refine lv_iconst (v := 0) hx hb dX6_kinds_19 (by decide) ?_
    refine lv_istore (lv' := [(4, .int (0 : Int32)), (3, .int (0 : Int32)), (2, .int v2), (0, .ref a_m), (1, .int u1)]) hx hb dX6_kinds_20 hl (by decide) rfl (fun ls hl => ?_)
    obtain ⟨e7, hv, h⟩ := zb h
    have hJ6 : ∀ (e7_ : Int32 × (Nat → Int32) × (Nat → Int32)), e7_ = e7 → zW p l e (zR 7 155) s m ([.ref a_m, .int u1] : List Value).toArray below meth c Q 5 A G [(a_m, .inr (6, [.ref a_m_state, .ref a_m_readPage, .int m_toldOnce, .ref a_m_tape, .int m_taped, .int m_fault, .int m_broken, .int m_brokenAt, .int m_spot, .int m_here, .int m_token, .int m_value, .ref a_m_cuts, .ref a_m_letters, .int m_silent, .int m_greatest, .int m_moves, .int m_holders, .ref a_m_seen, .int m_seenMany, .ref a_m_pointBy, .ref a_m_isKept, .ref a_m_lanes, .ref a_m_lengths, .ref a_m_sheetCells, .int m_torn])), (a_m_state, .inl (k 0, 156, .inl e7_.2.1)), (a_m_seen, .inl (k 0, 12, .inl m_seen)), (a_m_pointBy, .inl (k 0, 651, .inl e7_.2.2))] [(0, .ref a_m), (1, .int u1), (2, .int v2), (3, .int e7_.1)] 61 [] := by
      intro e7_ hz
      subst hz
      intro H locs ls hP hD hS hl
      refine lv_aload_n hx hb dX6_kinds_61 rfl (lv_at hl 0 rfl) ?_
      refine va_get (D := G) (ci := 6) (v := .ref a_m_state) (C := RX6) (T := TX6) (N := 26) hx hb hts iw_X6_kinds_X6 hown hK hP 0 rfl rfl 0 (by decide) (hts (.fieldLink RX6 7 "SpireLeanModel" "state" "[I") (List.mem_of_getElem? (i := 1) rfl)) (fun _ h9 => h9) rfl dX6_kinds_62 ?_
      refine lv_iload_n hx hb dX6_kinds_65 rfl (lv_at hl 1 rfl) ?_
      refine lv_iload_n hx hb dX6_kinds_66 rfl (lv_at hl 2 rfl) ?_
      obtain ⟨v13, hv, h⟩ := zb h
      refine z_iast hx hb hK hP hD hS 1 0 rfl rfl hv dX6_kinds_67 (fun H locs hP hD hS => ?_)
      have hP : va_P G vwCl [(a_m, .inr (6, [.ref a_m_state, .ref a_m_readPage, .int m_toldOnce, .ref a_m_tape, .int m_taped, .int m_fault, .int m_broken, .int m_brokenAt, .int m_spot, .int m_here, .int m_token, .int m_value, .ref a_m_cuts, .ref a_m_letters, .int m_silent, .int m_greatest, .int m_moves, .int m_holders, .ref a_m_seen, .int m_seenMany, .ref a_m_pointBy, .ref a_m_isKept, .ref a_m_lanes, .ref a_m_lengths, .ref a_m_sheetCells, .int m_torn])), (a_m_state, .inl (k 0, 156, .inl v13)), (a_m_seen, .inl (k 0, 12, .inl m_seen)), (a_m_pointBy, .inl (k 0, 651, .inl e7_.2.2))] H := hP
      have hD : va_D A [(a_m, .inr (6, [.ref a_m_state, .ref a_m_readPage, .int m_toldOnce, .ref a_m_tape, .int m_taped, .int m_fault, .int m_broken, .int m_brokenAt, .int m_spot, .int m_here, .int m_token, .int m_value, .ref a_m_cuts, .ref a_m_letters, .int m_silent, .int m_greatest, .int m_moves, .int m_holders, .ref a_m_seen, .int m_seenMany, .ref a_m_pointBy, .ref a_m_isKept, .ref a_m_lanes, .ref a_m_lengths, .ref a_m_sheetCells, .int m_torn])), (a_m_state, .inl (k 0, 156, .inl v13)), (a_m_seen, .inl (k 0, 12, .inl m_seen)), (a_m_pointBy, .inl (k 0, 651, .inl e7_.2.2))] := hD
      refine lv_iload_n hx hb dX6_kinds_68 rfl (lv_at hl 3 rfl) ?_
      have hr := (zs h)
      subst hr
      exact hret H locs ls 69 hP hS dX6_kinds_69
    refine z_lpW (Wh := fun (x3 : Int32 × Int32 × (Nat → Int32) × (Nat → Int32)) => zW p l e (zR 7 155) s m ([.ref a_m, .int u1] : List Value).toArray below meth c Q 5 A G [(a_m, .inr (6, [.ref a_m_state, .ref a_m_readPage, .int m_toldOnce, .ref a_m_tape, .int m_taped, .int m_fault, .int m_broken, .int m_brokenAt, .int m_spot, .int m_here, .int m_token, .int m_value, .ref a_m_cuts, .ref a_m_letters, .int m_silent, .int m_greatest, .int m_moves, .int m_holders, .ref a_m_seen, .int m_seenMany, .ref a_m_pointBy, .ref a_m_isKept, .ref a_m_lanes, .ref a_m_lengths, .ref a_m_sheetCells, .int m_torn])), (a_m_state, .inl (k 0, 156, .inl x3.2.2.1)), (a_m_seen, .inl (k 0, 12, .inl m_seen)), (a_m_pointBy, .inl (k 0, 651, .inl x3.2.2.2))] [(0, .ref a_m), (1, .int u1), (2, .int v2), (3, .int x3.1), (4, .int x3.2.1)] 22 []) ?_ 1000 _ hv H locs ls hP hD hS (lv_sub hl [3, 4, 2, 1, 0] rfl)
    clear h
    intro x3 o h hC4 hX5 H locs ls hP hD hS hl
    unfold p_X6_kinds_b22 at h
    refine lv_iload hx hb dX6_kinds_22 (lv_at hl 4 rfl) ?_
    refine lv_iconst (v := 4) hx hb dX6_kinds_24 (by decide) ?_
    refine lv_icmp_ge (tgt := 61) hx hb dX6_kinds_25 (by decide) (fun c12 => ?_) (fun c12 => ?_)
    · have h := zit c12 h
      exact hJ6 _ (hX5 _ (zs h)) H locs ls hP hD hS (lv_sub hl [0, 1, 2, 3] rfl)
    · have h := zif c12 h
      refine lv_aload_n hx hb dX6_kinds_28 rfl (lv_at hl 0 rfl) ?_
      refine va_get (D := G) (ci := 6) (v := .ref a_m_state) (C := RX6) (T := TX6) (N := 26) hx hb hts iw_X6_kinds_X6 hown hK hP 0 rfl rfl 0 (by decide) (hts (.fieldLink RX6 7 "SpireLeanModel" "state" "[I") (List.mem_of_getElem? (i := 1) rfl)) (fun _ h9 => h9) rfl dX6_kinds_29 ?_
      refine lv_iload_n hx hb dX6_kinds_32 rfl (lv_at hl 1 rfl) ?_
      refine lv_iload hx hb dX6_kinds_33 (lv_at hl 4 rfl) ?_
      obtain ⟨v9, hv, h⟩ := zb h
      refine z_iast hx hb hK hP hD hS 1 0 rfl rfl hv dX6_kinds_35 (fun H locs hP hD hS => ?_)
      have hP : va_P G vwCl [(a_m, .inr (6, [.ref a_m_state, .ref a_m_readPage, .int m_toldOnce, .ref a_m_tape, .int m_taped, .int m_fault, .int m_broken, .int m_brokenAt, .int m_spot, .int m_here, .int m_token, .int m_value, .ref a_m_cuts, .ref a_m_letters, .int m_silent, .int m_greatest, .int m_moves, .int m_holders, .ref a_m_seen, .int m_seenMany, .ref a_m_pointBy, .ref a_m_isKept, .ref a_m_lanes, .ref a_m_lengths, .ref a_m_sheetCells, .int m_torn])), (a_m_state, .inl (k 0, 156, .inl v9)), (a_m_seen, .inl (k 0, 12, .inl m_seen)), (a_m_pointBy, .inl (k 0, 651, .inl x3.2.2.2))] H := hP
      have hD : va_D A [(a_m, .inr (6, [.ref a_m_state, .ref a_m_readPage, .int m_toldOnce, .ref a_m_tape, .int m_taped, .int m_fault, .int m_broken, .int m_brokenAt, .int m_spot, .int m_here, .int m_token, .int m_value, .ref a_m_cuts, .ref a_m_letters, .int m_silent, .int m_greatest, .int m_moves, .int m_holders, .ref a_m_seen, .int m_seenMany, .ref a_m_pointBy, .ref a_m_isKept, .ref a_m_lanes, .ref a_m_lengths, .ref a_m_sheetCells, .int m_torn])), (a_m_state, .inl (k 0, 156, .inl v9)), (a_m_seen, .inl (k 0, 12, .inl m_seen)), (a_m_pointBy, .inl (k 0, 651, .inl x3.2.2.2))] := hD
      refine lv_iload_n hx hb dX6_kinds_36 rfl (lv_at hl 3 rfl) ?_
      refine lv_aload_n hx hb dX6_kinds_37 rfl (lv_at hl 0 rfl) ?_
      refine lv_iconst (v := 0) hx hb dX6_kinds_38 (by decide) ?_
      obtain ⟨o10, hv, h⟩ := zb h
      refine z_goi (w2 := [(a_m, .inr (6, [.ref a_m_state, .ref a_m_readPage, .int m_toldOnce, .ref a_m_tape, .int m_taped, .int m_fault, .int m_broken, .int m_brokenAt, .int m_spot, .int m_here, .int m_token, .int m_value, .ref a_m_cuts, .ref a_m_letters, .int m_silent, .int m_greatest, .int m_moves, .int m_holders, .ref a_m_seen, .int m_seenMany, .ref a_m_pointBy, .ref a_m_isKept, .ref a_m_lanes, .ref a_m_lengths, .ref a_m_sheetCells, .int m_torn])), (a_m_state, .inl (k 0, 156, .inl o10.2.1)), (a_m_seen, .inl (k 0, 12, .inl m_seen)), (a_m_pointBy, .inl (k 0, 651, .inl o10.2.2))]) [0, 1, 2, 3] (va_runV (As := [.int (0 : Int32)]) (rest := [.int x3.1]) ⟨hx, hb, hml, hown, hts⟩ (c_X6_isAsSeen l G k tL tM sK sV a_m a_m_state a_m_readPage a_m_tape a_m_cuts a_m_letters a_m_seen a_m_pointBy a_m_isKept a_m_lanes a_m_lengths a_m_sheetCells H.size m_toldOnce m_taped m_fault m_broken m_brokenAt m_spot m_here m_token m_value m_silent m_greatest m_moves m_holders m_seenMany m_torn v9 m_seen x3.2.2.2 (0 : Int32) o10 hv) (cwV 1 hts gX6_kinds_X6_isAsSeen rfl rfl rfl (by decide +kernel) ⟨Nat.le_of_ble_eq_true rfl, Nat.le_of_ble_eq_true rfl⟩) (z_preV (wc := [(a_m, .inr (6, [.ref a_m_state, .ref a_m_readPage, .int m_toldOnce, .ref a_m_tape, .int m_taped, .int m_fault, .int m_broken, .int m_brokenAt, .int m_spot, .int m_here, .int m_token, .int m_value, .ref a_m_cuts, .ref a_m_letters, .int m_silent, .int m_greatest, .int m_moves, .int m_holders, .ref a_m_seen, .int m_seenMany, .ref a_m_pointBy, .ref a_m_isKept, .ref a_m_lanes, .ref a_m_lengths, .ref a_m_sheetCells, .int m_torn])), (a_m_state, .inl (k 0, 156, .inl v9)), (a_m_seen, .inl (k 0, 12, .inl m_seen)), (a_m_pointBy, .inl (k 0, 651, .inl x3.2.2.2))]) [0, 1, 2, 3] 0 6 hK hE hA hP hD hS (by decide) rfl rfl rfl) rfl rfl hl.1 rfl (lv_room (Nat.le_of_ble_eq_true rfl)) dX6_kinds_39 ⟨Nat.le_refl _, Nat.le_refl _⟩) hA hP hD hS rfl rfl rfl rfl (fun H locs hP hD hS => ?_)
      refine lv_if_eq (tgt := 52) hx hb dX6_kinds_42 (by decide) (fun c11 => ?_) (fun c11 => ?_)
      · have h := zit c11 h
        refine lv_iconst (v := 0) hx hb dX6_kinds_52 (by decide) ?_
        refine lv_ior hx hb dX6_kinds_53 ?_
        refine lv_istore_n (lv' := [(3, .int (x3.1 ||| (0 : Int32))), (0, .ref a_m), (1, .int u1), (2, .int v2), (4, .int x3.2.1)]) hx hb dX6_kinds_54 rfl hl (by decide) rfl (fun ls hl => ?_)
        refine lv_iinc (v := x3.2.1 + (1 : Int32)) (lv' := [(4, .int (x3.2.1 + (1 : Int32))), (3, .int (x3.1 ||| (0 : Int32))), (0, .ref a_m), (1, .int u1), (2, .int v2)]) hx hb dX6_kinds_55 hl (k := 4) rfl rfl (by decide) rfl (fun ls hl => ?_)
        refine lv_goto (tgt := 22) hx hb dX6_kinds_58 (by decide) ?_
        exact hC4 _ (zs h) H locs ls hP hD hS (lv_sub hl [2, 3, 4, 1, 0] rfl)
      · have h := zif c11 h
        refine lv_iconst (v := 1) hx hb dX6_kinds_45 (by decide) ?_
        refine lv_iload hx hb dX6_kinds_46 (lv_at hl 4 rfl) ?_
        refine lv_ishl hx hb dX6_kinds_48 ?_
        refine lv_goto (tgt := 53) hx hb dX6_kinds_49 (by decide) ?_
        refine lv_ior hx hb dX6_kinds_53 ?_
        refine lv_istore_n (lv' := [(3, .int (x3.1 ||| ((1 : Int32) <<< (x3.2.1 &&& 31)))), (0, .ref a_m), (1, .int u1), (2, .int v2), (4, .int x3.2.1)]) hx hb dX6_kinds_54 rfl hl (by decide) rfl (fun ls hl => ?_)
        refine lv_iinc (v := x3.2.1 + (1 : Int32)) (lv' := [(4, .int (x3.2.1 + (1 : Int32))), (3, .int (x3.1 ||| ((1 : Int32) <<< (x3.2.1 &&& 31)))), (0, .ref a_m), (1, .int u1), (2, .int v2)]) hx hb dX6_kinds_55 hl (k := 4) rfl rfl (by decide) rfl (fun ls hl => ?_)
        refine lv_goto (tgt := 22) hx hb dX6_kinds_58 (by decide) ?_
        exact hC4 _ (zs h) H locs ls hP hD hS (lv_sub hl [2, 3, 4, 1, 0] rfl)
  · have h := zit c14 h
    refine lv_iconst (v := (-1)) hx hb dX6_kinds_8 (by decide) ?_
    have hr := (zs h)
    subst hr
    exact hret H locs ls 9 hP hS dX6_kinds_9
theorem iw_X6_pullsOf_X6 : ∀ w ∈ wsX60, w ∈ wsX6_pullsOf := fun _ h => List.mem_cons_of_mem _ (List.mem_append_right _ h)
set_option maxHeartbeats 4000000 in
set_option maxRecDepth 100000 in
theorem c_X6_pullsOf (l : Launch) (G : va_G) (k : Nat → ClassId) (tL tM : Nat) (sK sV : Nat → Nat) (a_m : Nat) (a_m_state : Nat) (a_m_readPage : Nat) (a_m_tape : Nat) (a_m_cuts : Nat) (a_m_letters : Nat) (a_m_seen : Nat) (a_m_pointBy : Nat) (a_m_isKept : Nat) (a_m_lanes : Nat) (a_m_lengths : Nat) (a_m_sheetCells : Nat) (sz : Nat) (m_toldOnce : Int32) (m_taped : Int32) (m_fault : Int32) (m_broken : Int32) (m_brokenAt : Int32) (m_spot : Int32) (m_here : Int32) (m_token : Int32) (m_value : Int32) (m_silent : Int32) (m_greatest : Int32) (m_moves : Int32) (m_holders : Int32) (m_seenMany : Int32) (m_torn : Int32) (m_state : Nat → Int32) (m_seen : Nat → Int32) (m_pointBy : Nat → Int32) (u1 : Int32) (out : Int32 × (Nat → Int32) × (Nat → Int32)) (h : p_X6_pullsOf u1 m_silent m_seenMany m_state m_seen m_pointBy = some out) : zMi l yX6_pullsOf wsX6_pullsOf 7 155 G k tL tM sK sV [.ref a_m, .int u1] [(a_m, .inr (6, [.ref a_m_state, .ref a_m_readPage, .int m_toldOnce, .ref a_m_tape, .int m_taped, .int m_fault, .int m_broken, .int m_brokenAt, .int m_spot, .int m_here, .int m_token, .int m_value, .ref a_m_cuts, .ref a_m_letters, .int m_silent, .int m_greatest, .int m_moves, .int m_holders, .ref a_m_seen, .int m_seenMany, .ref a_m_pointBy, .ref a_m_isKept, .ref a_m_lanes, .ref a_m_lengths, .ref a_m_sheetCells, .int m_torn])), (a_m_state, .inl (k 0, 156, .inl m_state)), (a_m_seen, .inl (k 0, 12, .inl m_seen)), (a_m_pointBy, .inl (k 0, 651, .inl m_pointBy))] [(a_m, .inr (6, [.ref a_m_state, .ref a_m_readPage, .int m_toldOnce, .ref a_m_tape, .int m_taped, .int m_fault, .int m_broken, .int m_brokenAt, .int m_spot, .int m_here, .int m_token, .int m_value, .ref a_m_cuts, .ref a_m_letters, .int m_silent, .int m_greatest, .int m_moves, .int m_holders, .ref a_m_seen, .int m_seenMany, .ref a_m_pointBy, .ref a_m_isKept, .ref a_m_lanes, .ref a_m_lengths, .ref a_m_sheetCells, .int m_torn])), (a_m_state, .inl (k 0, 156, .inl out.2.1)), (a_m_seen, .inl (k 0, 12, .inl m_seen)), (a_m_pointBy, .inl (k 0, 651, .inl out.2.2))] out.1 sz := by
  refine z_meti (cc := cX6_pullsOf) (maxL := 5) (by decide) rfl (Nat.le_of_ble_eq_true rfl) ?_
  intro p e s m below meth c A Q H locs ls hx hb hml hts hown hA hK hE hret hP hD hS hl
  have hown : s.vm.findClass RX6 = some m.cls := hown
  have hl : lv_has ls 5 [(0, .ref a_m), (1, .int u1)] := hl
  unfold p_X6_pullsOf at h
  refine lv_aload_n hx hb dX6_pullsOf_0 rfl (lv_at hl 0 rfl) ?_
  refine va_get (D := G) (ci := 6) (v := .ref a_m_state) (C := RX6) (T := TX6) (N := 26) hx hb hts iw_X6_pullsOf_X6 hown hK hP 0 rfl rfl 0 (by decide) (hts (.fieldLink RX6 7 "SpireLeanModel" "state" "[I") (List.mem_of_getElem? (i := 1) rfl)) (fun _ h9 => h9) rfl dX6_pullsOf_1 ?_
  refine lv_iconst (v := 5) hx hb dX6_pullsOf_4 (by decide) ?_
  refine lv_iload_n hx hb dX6_pullsOf_5 rfl (lv_at hl 1 rfl) ?_
  refine lv_iadd hx hb dX6_pullsOf_6 ?_
  obtain ⟨v1, hv, h⟩ := zb h
  refine z_iald hx hb hK hP 1 0 rfl rfl hv dX6_pullsOf_7 ?_
  refine lv_istore_n (lv' := [(2, .int v1), (0, .ref a_m), (1, .int u1)]) hx hb dX6_pullsOf_8 rfl hl (by decide) rfl (fun ls hl => ?_)
  refine lv_iconst (v := 0) hx hb dX6_pullsOf_9 (by decide) ?_
  refine lv_istore_n (lv' := [(3, .int (0 : Int32)), (2, .int v1), (0, .ref a_m), (1, .int u1)]) hx hb dX6_pullsOf_10 rfl hl (by decide) rfl (fun ls hl => ?_)
  refine lv_iconst (v := 1) hx hb dX6_pullsOf_11 (by decide) ?_
  refine lv_istore (lv' := [(4, .int (1 : Int32)), (3, .int (0 : Int32)), (2, .int v1), (0, .ref a_m), (1, .int u1)]) hx hb dX6_pullsOf_12 hl (by decide) rfl (fun ls hl => ?_)
  obtain ⟨e6, hv, h⟩ := zb h
  have hJ5 : ∀ (e6_ : Int32 × (Nat → Int32) × (Nat → Int32)), e6_ = e6 → zW p l e (zR 7 155) s m ([.ref a_m, .int u1] : List Value).toArray below meth c Q 5 A G [(a_m, .inr (6, [.ref a_m_state, .ref a_m_readPage, .int m_toldOnce, .ref a_m_tape, .int m_taped, .int m_fault, .int m_broken, .int m_brokenAt, .int m_spot, .int m_here, .int m_token, .int m_value, .ref a_m_cuts, .ref a_m_letters, .int m_silent, .int m_greatest, .int m_moves, .int m_holders, .ref a_m_seen, .int m_seenMany, .ref a_m_pointBy, .ref a_m_isKept, .ref a_m_lanes, .ref a_m_lengths, .ref a_m_sheetCells, .int m_torn])), (a_m_state, .inl (k 0, 156, .inl e6_.2.1)), (a_m_seen, .inl (k 0, 12, .inl m_seen)), (a_m_pointBy, .inl (k 0, 651, .inl e6_.2.2))] [(0, .ref a_m), (1, .int u1), (2, .int v1), (3, .int e6_.1)] 57 [] := by
    intro e6_ hz
    subst hz
    intro H locs ls hP hD hS hl
    refine lv_aload_n hx hb dX6_pullsOf_57 rfl (lv_at hl 0 rfl) ?_
    refine va_get (D := G) (ci := 6) (v := .ref a_m_state) (C := RX6) (T := TX6) (N := 26) hx hb hts iw_X6_pullsOf_X6 hown hK hP 0 rfl rfl 0 (by decide) (hts (.fieldLink RX6 7 "SpireLeanModel" "state" "[I") (List.mem_of_getElem? (i := 1) rfl)) (fun _ h9 => h9) rfl dX6_pullsOf_58 ?_
    refine lv_iconst (v := 5) hx hb dX6_pullsOf_61 (by decide) ?_
    refine lv_iload_n hx hb dX6_pullsOf_62 rfl (lv_at hl 1 rfl) ?_
    refine lv_iadd hx hb dX6_pullsOf_63 ?_
    refine lv_iload_n hx hb dX6_pullsOf_64 rfl (lv_at hl 2 rfl) ?_
    obtain ⟨v12, hv, h⟩ := zb h
    refine z_iast hx hb hK hP hD hS 1 0 rfl rfl hv dX6_pullsOf_65 (fun H locs hP hD hS => ?_)
    have hP : va_P G vwCl [(a_m, .inr (6, [.ref a_m_state, .ref a_m_readPage, .int m_toldOnce, .ref a_m_tape, .int m_taped, .int m_fault, .int m_broken, .int m_brokenAt, .int m_spot, .int m_here, .int m_token, .int m_value, .ref a_m_cuts, .ref a_m_letters, .int m_silent, .int m_greatest, .int m_moves, .int m_holders, .ref a_m_seen, .int m_seenMany, .ref a_m_pointBy, .ref a_m_isKept, .ref a_m_lanes, .ref a_m_lengths, .ref a_m_sheetCells, .int m_torn])), (a_m_state, .inl (k 0, 156, .inl v12)), (a_m_seen, .inl (k 0, 12, .inl m_seen)), (a_m_pointBy, .inl (k 0, 651, .inl e6_.2.2))] H := hP
    have hD : va_D A [(a_m, .inr (6, [.ref a_m_state, .ref a_m_readPage, .int m_toldOnce, .ref a_m_tape, .int m_taped, .int m_fault, .int m_broken, .int m_brokenAt, .int m_spot, .int m_here, .int m_token, .int m_value, .ref a_m_cuts, .ref a_m_letters, .int m_silent, .int m_greatest, .int m_moves, .int m_holders, .ref a_m_seen, .int m_seenMany, .ref a_m_pointBy, .ref a_m_isKept, .ref a_m_lanes, .ref a_m_lengths, .ref a_m_sheetCells, .int m_torn])), (a_m_state, .inl (k 0, 156, .inl v12)), (a_m_seen, .inl (k 0, 12, .inl m_seen)), (a_m_pointBy, .inl (k 0, 651, .inl e6_.2.2))] := hD
    refine lv_iload_n hx hb dX6_pullsOf_66 rfl (lv_at hl 3 rfl) ?_
    have hr := (zs h)
    subst hr
    exact hret H locs ls 67 hP hS dX6_pullsOf_67
  refine z_lpW (Wh := fun (x2 : Int32 × Int32 × (Nat → Int32) × (Nat → Int32)) => zW p l e (zR 7 155) s m ([.ref a_m, .int u1] : List Value).toArray below meth c Q 5 A G [(a_m, .inr (6, [.ref a_m_state, .ref a_m_readPage, .int m_toldOnce, .ref a_m_tape, .int m_taped, .int m_fault, .int m_broken, .int m_brokenAt, .int m_spot, .int m_here, .int m_token, .int m_value, .ref a_m_cuts, .ref a_m_letters, .int m_silent, .int m_greatest, .int m_moves, .int m_holders, .ref a_m_seen, .int m_seenMany, .ref a_m_pointBy, .ref a_m_isKept, .ref a_m_lanes, .ref a_m_lengths, .ref a_m_sheetCells, .int m_torn])), (a_m_state, .inl (k 0, 156, .inl x2.2.2.1)), (a_m_seen, .inl (k 0, 12, .inl m_seen)), (a_m_pointBy, .inl (k 0, 651, .inl x2.2.2.2))] [(0, .ref a_m), (1, .int u1), (2, .int v1), (3, .int x2.1), (4, .int x2.2.1)] 14 []) ?_ 1000 _ hv H locs ls hP hD hS (lv_sub hl [3, 4, 2, 1, 0] rfl)
  clear h
  intro x2 o h hC3 hX4 H locs ls hP hD hS hl
  unfold p_X6_pullsOf_b14 at h
  refine lv_iload hx hb dX6_pullsOf_14 (lv_at hl 4 rfl) ?_
  refine lv_bipush (v := 20) hx hb dX6_pullsOf_16 (by decide) ?_
  refine lv_icmp_gt (tgt := 57) hx hb dX6_pullsOf_18 (by decide) (fun c11 => ?_) (fun c11 => ?_)
  · have h := zit c11 h
    exact hJ5 _ (hX4 _ (zs h)) H locs ls hP hD hS (lv_sub hl [0, 1, 2, 3] rfl)
  · have h := zif c11 h
    refine lv_aload_n hx hb dX6_pullsOf_21 rfl (lv_at hl 0 rfl) ?_
    refine va_get (D := G) (ci := 6) (v := .ref a_m_state) (C := RX6) (T := TX6) (N := 26) hx hb hts iw_X6_pullsOf_X6 hown hK hP 0 rfl rfl 0 (by decide) (hts (.fieldLink RX6 7 "SpireLeanModel" "state" "[I") (List.mem_of_getElem? (i := 1) rfl)) (fun _ h9 => h9) rfl dX6_pullsOf_22 ?_
    refine lv_iconst (v := 5) hx hb dX6_pullsOf_25 (by decide) ?_
    refine lv_iload_n hx hb dX6_pullsOf_26 rfl (lv_at hl 1 rfl) ?_
    refine lv_iadd hx hb dX6_pullsOf_27 ?_
    refine lv_iload hx hb dX6_pullsOf_28 (lv_at hl 4 rfl) ?_
    obtain ⟨v8, hv, h⟩ := zb h
    refine z_iast hx hb hK hP hD hS 1 0 rfl rfl hv dX6_pullsOf_30 (fun H locs hP hD hS => ?_)
    have hP : va_P G vwCl [(a_m, .inr (6, [.ref a_m_state, .ref a_m_readPage, .int m_toldOnce, .ref a_m_tape, .int m_taped, .int m_fault, .int m_broken, .int m_brokenAt, .int m_spot, .int m_here, .int m_token, .int m_value, .ref a_m_cuts, .ref a_m_letters, .int m_silent, .int m_greatest, .int m_moves, .int m_holders, .ref a_m_seen, .int m_seenMany, .ref a_m_pointBy, .ref a_m_isKept, .ref a_m_lanes, .ref a_m_lengths, .ref a_m_sheetCells, .int m_torn])), (a_m_state, .inl (k 0, 156, .inl v8)), (a_m_seen, .inl (k 0, 12, .inl m_seen)), (a_m_pointBy, .inl (k 0, 651, .inl x2.2.2.2))] H := hP
    have hD : va_D A [(a_m, .inr (6, [.ref a_m_state, .ref a_m_readPage, .int m_toldOnce, .ref a_m_tape, .int m_taped, .int m_fault, .int m_broken, .int m_brokenAt, .int m_spot, .int m_here, .int m_token, .int m_value, .ref a_m_cuts, .ref a_m_letters, .int m_silent, .int m_greatest, .int m_moves, .int m_holders, .ref a_m_seen, .int m_seenMany, .ref a_m_pointBy, .ref a_m_isKept, .ref a_m_lanes, .ref a_m_lengths, .ref a_m_sheetCells, .int m_torn])), (a_m_state, .inl (k 0, 156, .inl v8)), (a_m_seen, .inl (k 0, 12, .inl m_seen)), (a_m_pointBy, .inl (k 0, 651, .inl x2.2.2.2))] := hD
    refine lv_iload_n hx hb dX6_pullsOf_31 rfl (lv_at hl 3 rfl) ?_
    refine lv_aload_n hx hb dX6_pullsOf_32 rfl (lv_at hl 0 rfl) ?_
    refine lv_iload hx hb dX6_pullsOf_33 (lv_at hl 4 rfl) ?_
    obtain ⟨o9, hv, h⟩ := zb h
    refine z_goi (w2 := [(a_m, .inr (6, [.ref a_m_state, .ref a_m_readPage, .int m_toldOnce, .ref a_m_tape, .int m_taped, .int m_fault, .int m_broken, .int m_brokenAt, .int m_spot, .int m_here, .int m_token, .int m_value, .ref a_m_cuts, .ref a_m_letters, .int m_silent, .int m_greatest, .int m_moves, .int m_holders, .ref a_m_seen, .int m_seenMany, .ref a_m_pointBy, .ref a_m_isKept, .ref a_m_lanes, .ref a_m_lengths, .ref a_m_sheetCells, .int m_torn])), (a_m_state, .inl (k 0, 156, .inl o9.2.1)), (a_m_seen, .inl (k 0, 12, .inl m_seen)), (a_m_pointBy, .inl (k 0, 651, .inl o9.2.2))]) [0, 1, 2, 3] (va_runV (As := [.int x2.2.1]) (rest := [.int x2.1]) ⟨hx, hb, hml, hown, hts⟩ (c_X6_isAsSeen l G k tL tM sK sV a_m a_m_state a_m_readPage a_m_tape a_m_cuts a_m_letters a_m_seen a_m_pointBy a_m_isKept a_m_lanes a_m_lengths a_m_sheetCells H.size m_toldOnce m_taped m_fault m_broken m_brokenAt m_spot m_here m_token m_value m_silent m_greatest m_moves m_holders m_seenMany m_torn v8 m_seen x2.2.2.2 x2.2.1 o9 hv) (cwV 1 hts gX6_pullsOf_X6_isAsSeen rfl rfl rfl (by decide +kernel) ⟨Nat.le_of_ble_eq_true rfl, Nat.le_of_ble_eq_true rfl⟩) (z_preV (wc := [(a_m, .inr (6, [.ref a_m_state, .ref a_m_readPage, .int m_toldOnce, .ref a_m_tape, .int m_taped, .int m_fault, .int m_broken, .int m_brokenAt, .int m_spot, .int m_here, .int m_token, .int m_value, .ref a_m_cuts, .ref a_m_letters, .int m_silent, .int m_greatest, .int m_moves, .int m_holders, .ref a_m_seen, .int m_seenMany, .ref a_m_pointBy, .ref a_m_isKept, .ref a_m_lanes, .ref a_m_lengths, .ref a_m_sheetCells, .int m_torn])), (a_m_state, .inl (k 0, 156, .inl v8)), (a_m_seen, .inl (k 0, 12, .inl m_seen)), (a_m_pointBy, .inl (k 0, 651, .inl x2.2.2.2))]) [0, 1, 2, 3] 0 6 hK hE hA hP hD hS (by decide) rfl rfl rfl) rfl rfl hl.1 rfl (lv_room (Nat.le_of_ble_eq_true rfl)) dX6_pullsOf_35 ⟨Nat.le_refl _, Nat.le_refl _⟩) hA hP hD hS rfl rfl rfl rfl (fun H locs hP hD hS => ?_)
    refine lv_if_eq (tgt := 48) hx hb dX6_pullsOf_38 (by decide) (fun c10 => ?_) (fun c10 => ?_)
    · have h := zit c10 h
      refine lv_iconst (v := 0) hx hb dX6_pullsOf_48 (by decide) ?_
      refine lv_ior hx hb dX6_pullsOf_49 ?_
      refine lv_istore_n (lv' := [(3, .int (x2.1 ||| (0 : Int32))), (0, .ref a_m), (1, .int u1), (2, .int v1), (4, .int x2.2.1)]) hx hb dX6_pullsOf_50 rfl hl (by decide) rfl (fun ls hl => ?_)
      refine lv_iinc (v := x2.2.1 + (1 : Int32)) (lv' := [(4, .int (x2.2.1 + (1 : Int32))), (3, .int (x2.1 ||| (0 : Int32))), (0, .ref a_m), (1, .int u1), (2, .int v1)]) hx hb dX6_pullsOf_51 hl (k := 4) rfl rfl (by decide) rfl (fun ls hl => ?_)
      refine lv_goto (tgt := 14) hx hb dX6_pullsOf_54 (by decide) ?_
      exact hC3 _ (zs h) H locs ls hP hD hS (lv_sub hl [2, 3, 4, 1, 0] rfl)
    · have h := zif c10 h
      refine lv_iconst (v := 1) hx hb dX6_pullsOf_41 (by decide) ?_
      refine lv_iload hx hb dX6_pullsOf_42 (lv_at hl 4 rfl) ?_
      refine lv_ishl hx hb dX6_pullsOf_44 ?_
      refine lv_goto (tgt := 49) hx hb dX6_pullsOf_45 (by decide) ?_
      refine lv_ior hx hb dX6_pullsOf_49 ?_
      refine lv_istore_n (lv' := [(3, .int (x2.1 ||| ((1 : Int32) <<< (x2.2.1 &&& 31)))), (0, .ref a_m), (1, .int u1), (2, .int v1), (4, .int x2.2.1)]) hx hb dX6_pullsOf_50 rfl hl (by decide) rfl (fun ls hl => ?_)
      refine lv_iinc (v := x2.2.1 + (1 : Int32)) (lv' := [(4, .int (x2.2.1 + (1 : Int32))), (3, .int (x2.1 ||| ((1 : Int32) <<< (x2.2.1 &&& 31)))), (0, .ref a_m), (1, .int u1), (2, .int v1)]) hx hb dX6_pullsOf_51 hl (k := 4) rfl rfl (by decide) rfl (fun ls hl => ?_)
      refine lv_goto (tgt := 14) hx hb dX6_pullsOf_54 (by decide) ?_
      exact hC3 _ (zs h) H locs ls hP hD hS (lv_sub hl [2, 3, 4, 1, 0] rfl)
set_option maxHeartbeats 4000000 in
set_option maxRecDepth 100000 in
theorem c_X6_pulls (l : Launch) (G : va_G) (k : Nat → ClassId) (tL tM : Nat) (sK sV : Nat → Nat) (a_m : Nat) (a_m_state : Nat) (a_m_readPage : Nat) (a_m_tape : Nat) (a_m_cuts : Nat) (a_m_letters : Nat) (a_m_seen : Nat) (a_m_pointBy : Nat) (a_m_isKept : Nat) (a_m_lanes : Nat) (a_m_lengths : Nat) (a_m_sheetCells : Nat) (sz : Nat) (m_toldOnce : Int32) (m_taped : Int32) (m_fault : Int32) (m_broken : Int32) (m_brokenAt : Int32) (m_spot : Int32) (m_here : Int32) (m_token : Int32) (m_value : Int32) (m_silent : Int32) (m_greatest : Int32) (m_moves : Int32) (m_holders : Int32) (m_seenMany : Int32) (m_torn : Int32) (m_state : Nat → Int32) (m_seen : Nat → Int32) (m_pointBy : Nat → Int32) (u1 : Int32) (out : Int32 × (Nat → Int32) × (Nat → Int32)) (h : p_X6_pulls u1 m_silent m_seenMany m_state m_seen m_pointBy = some out) : zMi l yX6_pulls wsX6_pulls 8 179 G k tL tM sK sV [.ref a_m, .int u1] [(a_m, .inr (6, [.ref a_m_state, .ref a_m_readPage, .int m_toldOnce, .ref a_m_tape, .int m_taped, .int m_fault, .int m_broken, .int m_brokenAt, .int m_spot, .int m_here, .int m_token, .int m_value, .ref a_m_cuts, .ref a_m_letters, .int m_silent, .int m_greatest, .int m_moves, .int m_holders, .ref a_m_seen, .int m_seenMany, .ref a_m_pointBy, .ref a_m_isKept, .ref a_m_lanes, .ref a_m_lengths, .ref a_m_sheetCells, .int m_torn])), (a_m_state, .inl (k 0, 156, .inl m_state)), (a_m_seen, .inl (k 0, 12, .inl m_seen)), (a_m_pointBy, .inl (k 0, 651, .inl m_pointBy))] [(a_m, .inr (6, [.ref a_m_state, .ref a_m_readPage, .int m_toldOnce, .ref a_m_tape, .int m_taped, .int m_fault, .int m_broken, .int m_brokenAt, .int m_spot, .int m_here, .int m_token, .int m_value, .ref a_m_cuts, .ref a_m_letters, .int m_silent, .int m_greatest, .int m_moves, .int m_holders, .ref a_m_seen, .int m_seenMany, .ref a_m_pointBy, .ref a_m_isKept, .ref a_m_lanes, .ref a_m_lengths, .ref a_m_sheetCells, .int m_torn])), (a_m_state, .inl (k 0, 156, .inl out.2.1)), (a_m_seen, .inl (k 0, 12, .inl m_seen)), (a_m_pointBy, .inl (k 0, 651, .inl out.2.2))] out.1 sz := by
  refine z_meti (cc := cX6_pulls) (maxL := 2) (by decide) rfl (Nat.le_of_ble_eq_true rfl) ?_
  intro p e s m below meth c A Q H locs ls hx hb hml hts hown hA hK hE hret hP hD hS hl
  have hown : s.vm.findClass RX6 = some m.cls := hown
  have hl : lv_has ls 2 [(0, .ref a_m), (1, .int u1)] := hl
  unfold p_X6_pulls at h
  refine lv_aload_n hx hb dX6_pulls_0 rfl (lv_at hl 0 rfl) ?_
  refine lv_iload_n hx hb dX6_pulls_1 rfl (lv_at hl 1 rfl) ?_
  obtain ⟨o1, hv, h⟩ := zb h
  refine z_goi (w2 := [(a_m, .inr (6, [.ref a_m_state, .ref a_m_readPage, .int m_toldOnce, .ref a_m_tape, .int m_taped, .int m_fault, .int m_broken, .int m_brokenAt, .int m_spot, .int m_here, .int m_token, .int m_value, .ref a_m_cuts, .ref a_m_letters, .int m_silent, .int m_greatest, .int m_moves, .int m_holders, .ref a_m_seen, .int m_seenMany, .ref a_m_pointBy, .ref a_m_isKept, .ref a_m_lanes, .ref a_m_lengths, .ref a_m_sheetCells, .int m_torn])), (a_m_state, .inl (k 0, 156, .inl m_state)), (a_m_seen, .inl (k 0, 12, .inl m_seen)), (a_m_pointBy, .inl (k 0, 651, .inl m_pointBy))]) [0, 1] (va_runV (As := [.int u1]) (rest := []) ⟨hx, hb, hml, hown, hts⟩ (c_X6_isDraw l G k tL tM sK sV a_m a_m_state a_m_readPage a_m_tape a_m_cuts a_m_letters a_m_seen a_m_pointBy a_m_isKept a_m_lanes a_m_lengths a_m_sheetCells H.size m_toldOnce m_taped m_fault m_broken m_brokenAt m_spot m_here m_token m_value m_silent m_greatest m_moves m_holders m_seenMany m_torn m_state u1 o1 hv) (cwV 1 hts gX6_pulls_X6_isDraw rfl rfl rfl (by decide +kernel) ⟨Nat.le_of_ble_eq_true rfl, Nat.le_of_ble_eq_true rfl⟩) (z_preV (wc := [(a_m, .inr (6, [.ref a_m_state, .ref a_m_readPage, .int m_toldOnce, .ref a_m_tape, .int m_taped, .int m_fault, .int m_broken, .int m_brokenAt, .int m_spot, .int m_here, .int m_token, .int m_value, .ref a_m_cuts, .ref a_m_letters, .int m_silent, .int m_greatest, .int m_moves, .int m_holders, .ref a_m_seen, .int m_seenMany, .ref a_m_pointBy, .ref a_m_isKept, .ref a_m_lanes, .ref a_m_lengths, .ref a_m_sheetCells, .int m_torn])), (a_m_state, .inl (k 0, 156, .inl m_state))]) [0, 1] 0 6 hK hE hA hP hD hS (by decide) rfl rfl rfl) rfl rfl hl.1 rfl (lv_room (Nat.le_of_ble_eq_true rfl)) dX6_pulls_2 ⟨Nat.le_refl _, Nat.le_refl _⟩) hA hP hD hS rfl rfl rfl rfl (fun H locs hP hD hS => ?_)
  refine lv_if_eq (tgt := 16) hx hb dX6_pulls_5 (by decide) (fun c3 => ?_) (fun c3 => ?_)
  · have h := zit c3 h
    refine lv_iconst (v := (-1)) hx hb dX6_pulls_16 (by decide) ?_
    have hr := (zs h)
    subst hr
    exact hret H locs ls 17 hP hS dX6_pulls_17
  · have h := zif c3 h
    refine lv_aload_n hx hb dX6_pulls_8 rfl (lv_at hl 0 rfl) ?_
    refine lv_iload_n hx hb dX6_pulls_9 rfl (lv_at hl 1 rfl) ?_
    obtain ⟨o2, hv, h⟩ := zb h
    refine z_goi (w2 := [(a_m, .inr (6, [.ref a_m_state, .ref a_m_readPage, .int m_toldOnce, .ref a_m_tape, .int m_taped, .int m_fault, .int m_broken, .int m_brokenAt, .int m_spot, .int m_here, .int m_token, .int m_value, .ref a_m_cuts, .ref a_m_letters, .int m_silent, .int m_greatest, .int m_moves, .int m_holders, .ref a_m_seen, .int m_seenMany, .ref a_m_pointBy, .ref a_m_isKept, .ref a_m_lanes, .ref a_m_lengths, .ref a_m_sheetCells, .int m_torn])), (a_m_state, .inl (k 0, 156, .inl o2.2.1)), (a_m_seen, .inl (k 0, 12, .inl m_seen)), (a_m_pointBy, .inl (k 0, 651, .inl o2.2.2))]) [0, 1, 2, 3] (va_runV (As := [.int u1]) (rest := []) ⟨hx, hb, hml, hown, hts⟩ (c_X6_pullsOf l G k tL tM sK sV a_m a_m_state a_m_readPage a_m_tape a_m_cuts a_m_letters a_m_seen a_m_pointBy a_m_isKept a_m_lanes a_m_lengths a_m_sheetCells H.size m_toldOnce m_taped m_fault m_broken m_brokenAt m_spot m_here m_token m_value m_silent m_greatest m_moves m_holders m_seenMany m_torn m_state m_seen m_pointBy u1 o2 hv) (cwV 1 hts gX6_pulls_X6_pullsOf rfl rfl rfl (by decide +kernel) ⟨Nat.le_of_ble_eq_true rfl, Nat.le_of_ble_eq_true rfl⟩) (z_preV (wc := [(a_m, .inr (6, [.ref a_m_state, .ref a_m_readPage, .int m_toldOnce, .ref a_m_tape, .int m_taped, .int m_fault, .int m_broken, .int m_brokenAt, .int m_spot, .int m_here, .int m_token, .int m_value, .ref a_m_cuts, .ref a_m_letters, .int m_silent, .int m_greatest, .int m_moves, .int m_holders, .ref a_m_seen, .int m_seenMany, .ref a_m_pointBy, .ref a_m_isKept, .ref a_m_lanes, .ref a_m_lengths, .ref a_m_sheetCells, .int m_torn])), (a_m_state, .inl (k 0, 156, .inl m_state)), (a_m_seen, .inl (k 0, 12, .inl m_seen)), (a_m_pointBy, .inl (k 0, 651, .inl m_pointBy))]) [0, 1, 2, 3] 0 6 hK hE hA hP hD hS (by decide) rfl rfl rfl) rfl rfl hl.1 rfl (lv_room (Nat.le_of_ble_eq_true rfl)) dX6_pulls_10 ⟨Nat.le_refl _, Nat.le_refl _⟩) hA hP hD hS rfl rfl rfl rfl (fun H locs hP hD hS => ?_)
    refine lv_goto (tgt := 17) hx hb dX6_pulls_13 (by decide) ?_
    have hr := (zs h)
    subst hr
    exact hret H locs ls 17 hP hS dX6_pulls_17
theorem iw_X6_spots_X6 : ∀ w ∈ wsX60, w ∈ wsX6_spots := fun _ h => List.mem_cons_of_mem _ (List.mem_append_right _ h)
set_option maxHeartbeats 4000000 in
set_option maxRecDepth 100000 in
theorem c_X6_spots (l : Launch) (G : va_G) (k : Nat → ClassId) (tL tM : Nat) (sK sV : Nat → Nat) (a_m : Nat) (a_m_state : Nat) (a_m_readPage : Nat) (a_m_tape : Nat) (a_m_cuts : Nat) (a_m_letters : Nat) (a_m_seen : Nat) (a_m_pointBy : Nat) (a_m_isKept : Nat) (a_m_lanes : Nat) (a_m_lengths : Nat) (a_m_sheetCells : Nat) (sz : Nat) (m_toldOnce : Int32) (m_taped : Int32) (m_fault : Int32) (m_broken : Int32) (m_brokenAt : Int32) (m_spot : Int32) (m_here : Int32) (m_token : Int32) (m_value : Int32) (m_silent : Int32) (m_greatest : Int32) (m_moves : Int32) (m_holders : Int32) (m_seenMany : Int32) (m_torn : Int32) (m_state : Nat → Int32) (m_seen : Nat → Int32) (m_pointBy : Nat → Int32) (u1 : Int32) (u2 : Int32) (out : Int32 × (Nat → Int32) × (Nat → Int32)) (h : p_X6_spots u1 u2 m_silent m_seenMany m_state m_seen m_pointBy = some out) : zMi l yX6_spots wsX6_spots 7 155 G k tL tM sK sV [.ref a_m, .int u1, .int u2] [(a_m, .inr (6, [.ref a_m_state, .ref a_m_readPage, .int m_toldOnce, .ref a_m_tape, .int m_taped, .int m_fault, .int m_broken, .int m_brokenAt, .int m_spot, .int m_here, .int m_token, .int m_value, .ref a_m_cuts, .ref a_m_letters, .int m_silent, .int m_greatest, .int m_moves, .int m_holders, .ref a_m_seen, .int m_seenMany, .ref a_m_pointBy, .ref a_m_isKept, .ref a_m_lanes, .ref a_m_lengths, .ref a_m_sheetCells, .int m_torn])), (a_m_state, .inl (k 0, 156, .inl m_state)), (a_m_seen, .inl (k 0, 12, .inl m_seen)), (a_m_pointBy, .inl (k 0, 651, .inl m_pointBy))] [(a_m, .inr (6, [.ref a_m_state, .ref a_m_readPage, .int m_toldOnce, .ref a_m_tape, .int m_taped, .int m_fault, .int m_broken, .int m_brokenAt, .int m_spot, .int m_here, .int m_token, .int m_value, .ref a_m_cuts, .ref a_m_letters, .int m_silent, .int m_greatest, .int m_moves, .int m_holders, .ref a_m_seen, .int m_seenMany, .ref a_m_pointBy, .ref a_m_isKept, .ref a_m_lanes, .ref a_m_lengths, .ref a_m_sheetCells, .int m_torn])), (a_m_state, .inl (k 0, 156, .inl out.2.1)), (a_m_seen, .inl (k 0, 12, .inl m_seen)), (a_m_pointBy, .inl (k 0, 651, .inl out.2.2))] out.1 sz := by
  refine z_meti (cc := cX6_spots) (maxL := 8) (by decide) rfl (Nat.le_of_ble_eq_true rfl) ?_
  intro p e s m below meth c A Q H locs ls hx hb hml hts hown hA hK hE hret hP hD hS hl
  have hown : s.vm.findClass RX6 = some m.cls := hown
  have hl : lv_has ls 8 [(0, .ref a_m), (1, .int u1), (2, .int u2)] := hl
  unfold p_X6_spots at h
  refine lv_aload_n hx hb dX6_spots_0 rfl (lv_at hl 0 rfl) ?_
  refine lv_iload_n hx hb dX6_spots_1 rfl (lv_at hl 1 rfl) ?_
  obtain ⟨o1, hv, h⟩ := zb h
  refine z_goi (w2 := [(a_m, .inr (6, [.ref a_m_state, .ref a_m_readPage, .int m_toldOnce, .ref a_m_tape, .int m_taped, .int m_fault, .int m_broken, .int m_brokenAt, .int m_spot, .int m_here, .int m_token, .int m_value, .ref a_m_cuts, .ref a_m_letters, .int m_silent, .int m_greatest, .int m_moves, .int m_holders, .ref a_m_seen, .int m_seenMany, .ref a_m_pointBy, .ref a_m_isKept, .ref a_m_lanes, .ref a_m_lengths, .ref a_m_sheetCells, .int m_torn])), (a_m_state, .inl (k 0, 156, .inl m_state)), (a_m_seen, .inl (k 0, 12, .inl m_seen)), (a_m_pointBy, .inl (k 0, 651, .inl m_pointBy))]) [0, 1] (va_runV (As := [.int u1]) (rest := []) ⟨hx, hb, hml, hown, hts⟩ (c_X6_isDraw l G k tL tM sK sV a_m a_m_state a_m_readPage a_m_tape a_m_cuts a_m_letters a_m_seen a_m_pointBy a_m_isKept a_m_lanes a_m_lengths a_m_sheetCells H.size m_toldOnce m_taped m_fault m_broken m_brokenAt m_spot m_here m_token m_value m_silent m_greatest m_moves m_holders m_seenMany m_torn m_state u1 o1 hv) (cwV 1 hts gX6_spots_X6_isDraw rfl rfl rfl (by decide +kernel) ⟨Nat.le_of_ble_eq_true rfl, Nat.le_of_ble_eq_true rfl⟩) (z_preV (wc := [(a_m, .inr (6, [.ref a_m_state, .ref a_m_readPage, .int m_toldOnce, .ref a_m_tape, .int m_taped, .int m_fault, .int m_broken, .int m_brokenAt, .int m_spot, .int m_here, .int m_token, .int m_value, .ref a_m_cuts, .ref a_m_letters, .int m_silent, .int m_greatest, .int m_moves, .int m_holders, .ref a_m_seen, .int m_seenMany, .ref a_m_pointBy, .ref a_m_isKept, .ref a_m_lanes, .ref a_m_lengths, .ref a_m_sheetCells, .int m_torn])), (a_m_state, .inl (k 0, 156, .inl m_state))]) [0, 1] 0 6 hK hE hA hP hD hS (by decide) rfl rfl rfl) rfl rfl hl.1 rfl (lv_room (Nat.le_of_ble_eq_true rfl)) dX6_spots_2 ⟨Nat.le_refl _, Nat.le_refl _⟩) hA hP hD hS rfl rfl rfl rfl (fun H locs hP hD hS => ?_)
  refine lv_if_eq (tgt := 18) hx hb dX6_spots_5 (by decide) (fun c23 => ?_) (fun c23 => ?_)
  · have h := zit c23 h
    refine lv_iconst (v := (-1)) hx hb dX6_spots_18 (by decide) ?_
    have hr := (zs h)
    subst hr
    exact hret H locs ls 19 hP hS dX6_spots_19
  · have h := zif c23 h
    refine lv_iload_n hx hb dX6_spots_8 rfl (lv_at hl 2 rfl) ?_
    refine lv_i2l (v := u2.toInt64) hx hb dX6_spots_9 rfl ?_
    refine lv_lconst (v := 0) hx hb dX6_spots_10 (by decide) ?_
    refine lv_lconst (v := 1) hx hb dX6_spots_11 (by decide) ?_
    obtain ⟨o2, hv, h⟩ := zb h
    refine z_goi (w2 := [(a_m, .inr (6, [.ref a_m_state, .ref a_m_readPage, .int m_toldOnce, .ref a_m_tape, .int m_taped, .int m_fault, .int m_broken, .int m_brokenAt, .int m_spot, .int m_here, .int m_token, .int m_value, .ref a_m_cuts, .ref a_m_letters, .int m_silent, .int m_greatest, .int m_moves, .int m_holders, .ref a_m_seen, .int m_seenMany, .ref a_m_pointBy, .ref a_m_isKept, .ref a_m_lanes, .ref a_m_lengths, .ref a_m_sheetCells, .int m_torn])), (a_m_state, .inl (k 0, 156, .inl m_state)), (a_m_seen, .inl (k 0, 12, .inl m_seen)), (a_m_pointBy, .inl (k 0, 651, .inl m_pointBy))]) [] (va_runS (As := [.long u2.toInt64, .long (0 : Int64), .long (1 : Int64)]) (rest := []) ⟨hx, hb, hml, hown, hts⟩ (c_X6_in l G k tL tM sK sV H.size u2.toInt64 (0 : Int64) (1 : Int64) o2 hv) (va_cwS 3 hts gX6_spots_X6_in rfl rfl rfl (by decide +kernel) ⟨Nat.le_of_ble_eq_true rfl, Nat.le_of_ble_eq_true rfl⟩) (z_preS (wc := []) [] hK hE hA hP hD hS (by decide) rfl) rfl rfl hl.1 rfl (lv_room (Nat.le_of_ble_eq_true rfl)) dX6_spots_12 ⟨Nat.le_refl _, Nat.le_refl _⟩) hA hP hD hS rfl rfl rfl rfl (fun H locs hP hD hS => ?_)
    refine lv_if_ne (tgt := 20) hx hb dX6_spots_15 (by decide) (fun c22 => ?_) (fun c22 => ?_)
    · have h := zif c22 h
      refine lv_aload_n hx hb dX6_spots_20 rfl (lv_at hl 0 rfl) ?_
      refine va_get (D := G) (ci := 6) (v := .ref a_m_state) (C := RX6) (T := TX6) (N := 26) hx hb hts iw_X6_spots_X6 hown hK hP 0 rfl rfl 0 (by decide) (hts (.fieldLink RX6 7 "SpireLeanModel" "state" "[I") (List.mem_of_getElem? (i := 1) rfl)) (fun _ h9 => h9) rfl dX6_spots_21 ?_
      refine lv_bipush (v := 10) hx hb dX6_spots_24 (by decide) ?_
      refine lv_iload_n hx hb dX6_spots_26 rfl (lv_at hl 1 rfl) ?_
      refine lv_iadd hx hb dX6_spots_27 ?_
      obtain ⟨v3, hv, h⟩ := zb h
      refine z_iald hx hb hK hP 1 0 rfl rfl hv dX6_spots_28 ?_
      refine lv_istore_n (lv' := [(3, .int v3), (0, .ref a_m), (1, .int u1), (2, .int u2)]) hx hb dX6_spots_29 rfl hl (by decide) rfl (fun ls hl => ?_)
      refine lv_iconst (v := 0) hx hb dX6_spots_30 (by decide) ?_
      refine lv_istore (lv' := [(4, .int (0 : Int32)), (3, .int v3), (0, .ref a_m), (1, .int u1), (2, .int u2)]) hx hb dX6_spots_31 hl (by decide) rfl (fun ls hl => ?_)
      refine lv_bipush (v := (-4)) hx hb dX6_spots_33 (by decide) ?_
      refine lv_istore (lv' := [(5, .int (-4 : Int32)), (4, .int (0 : Int32)), (3, .int v3), (0, .ref a_m), (1, .int u1), (2, .int u2)]) hx hb dX6_spots_35 hl (by decide) rfl (fun ls hl => ?_)
      refine lv_iconst (v := 0) hx hb dX6_spots_37 (by decide) ?_
      refine lv_istore (lv' := [(6, .int (0 : Int32)), (5, .int (-4 : Int32)), (4, .int (0 : Int32)), (3, .int v3), (0, .ref a_m), (1, .int u1), (2, .int u2)]) hx hb dX6_spots_38 hl (by decide) rfl (fun ls hl => ?_)
      obtain ⟨e8, hv, h⟩ := zb h
      have hJ7 : ∀ (e8_ : Int32 × Int32 × (Nat → Int32) × (Nat → Int32)), e8_ = e8 → zW p l e (zR 7 155) s m ([.ref a_m, .int u1, .int u2] : List Value).toArray below meth c Q 8 A G [(a_m, .inr (6, [.ref a_m_state, .ref a_m_readPage, .int m_toldOnce, .ref a_m_tape, .int m_taped, .int m_fault, .int m_broken, .int m_brokenAt, .int m_spot, .int m_here, .int m_token, .int m_value, .ref a_m_cuts, .ref a_m_letters, .int m_silent, .int m_greatest, .int m_moves, .int m_holders, .ref a_m_seen, .int m_seenMany, .ref a_m_pointBy, .ref a_m_isKept, .ref a_m_lanes, .ref a_m_lengths, .ref a_m_sheetCells, .int m_torn])), (a_m_state, .inl (k 0, 156, .inl e8_.2.2.1)), (a_m_seen, .inl (k 0, 12, .inl m_seen)), (a_m_pointBy, .inl (k 0, 651, .inl e8_.2.2.2))] [(0, .ref a_m), (1, .int u1), (2, .int u2), (3, .int v3), (4, .int e8_.1), (5, .int e8_.2.1)] 105 [] := by
        intro e8_ hz
        subst hz
        intro H locs ls hP hD hS hl
        refine lv_aload_n hx hb dX6_spots_105 rfl (lv_at hl 0 rfl) ?_
        refine va_get (D := G) (ci := 6) (v := .ref a_m_state) (C := RX6) (T := TX6) (N := 26) hx hb hts iw_X6_spots_X6 hown hK hP 0 rfl rfl 0 (by decide) (hts (.fieldLink RX6 7 "SpireLeanModel" "state" "[I") (List.mem_of_getElem? (i := 1) rfl)) (fun _ h9 => h9) rfl dX6_spots_106 ?_
        refine lv_bipush (v := 10) hx hb dX6_spots_109 (by decide) ?_
        refine lv_iload_n hx hb dX6_spots_111 rfl (lv_at hl 1 rfl) ?_
        refine lv_iadd hx hb dX6_spots_112 ?_
        refine lv_iload_n hx hb dX6_spots_113 rfl (lv_at hl 3 rfl) ?_
        obtain ⟨v20, hv, h⟩ := zb h
        refine z_iast hx hb hK hP hD hS 1 0 rfl rfl hv dX6_spots_114 (fun H locs hP hD hS => ?_)
        have hP : va_P G vwCl [(a_m, .inr (6, [.ref a_m_state, .ref a_m_readPage, .int m_toldOnce, .ref a_m_tape, .int m_taped, .int m_fault, .int m_broken, .int m_brokenAt, .int m_spot, .int m_here, .int m_token, .int m_value, .ref a_m_cuts, .ref a_m_letters, .int m_silent, .int m_greatest, .int m_moves, .int m_holders, .ref a_m_seen, .int m_seenMany, .ref a_m_pointBy, .ref a_m_isKept, .ref a_m_lanes, .ref a_m_lengths, .ref a_m_sheetCells, .int m_torn])), (a_m_state, .inl (k 0, 156, .inl v20)), (a_m_seen, .inl (k 0, 12, .inl m_seen)), (a_m_pointBy, .inl (k 0, 651, .inl e8_.2.2.2))] H := hP
        have hD : va_D A [(a_m, .inr (6, [.ref a_m_state, .ref a_m_readPage, .int m_toldOnce, .ref a_m_tape, .int m_taped, .int m_fault, .int m_broken, .int m_brokenAt, .int m_spot, .int m_here, .int m_token, .int m_value, .ref a_m_cuts, .ref a_m_letters, .int m_silent, .int m_greatest, .int m_moves, .int m_holders, .ref a_m_seen, .int m_seenMany, .ref a_m_pointBy, .ref a_m_isKept, .ref a_m_lanes, .ref a_m_lengths, .ref a_m_sheetCells, .int m_torn])), (a_m_state, .inl (k 0, 156, .inl v20)), (a_m_seen, .inl (k 0, 12, .inl m_seen)), (a_m_pointBy, .inl (k 0, 651, .inl e8_.2.2.2))] := hD
        refine lv_iload_n hx hb dX6_spots_115 rfl (lv_at hl 2 rfl) ?_
        refine lv_if_ne (tgt := 124) hx hb dX6_spots_116 (by decide) (fun c21 => ?_) (fun c21 => ?_)
        · have h := zif c21 h
          refine lv_iload hx hb dX6_spots_124 (lv_at hl 5 rfl) ?_
          have hr := (zs h)
          subst hr
          exact hret H locs ls 126 hP hS dX6_spots_126
        · have h := zit c21 h
          refine lv_iload hx hb dX6_spots_119 (lv_at hl 4 rfl) ?_
          refine lv_goto (tgt := 126) hx hb dX6_spots_121 (by decide) ?_
          have hr := (zs h)
          subst hr
          exact hret H locs ls 126 hP hS dX6_spots_126
      refine z_lpW (Wh := fun (x4 : Int32 × Int32 × Int32 × (Nat → Int32) × (Nat → Int32)) => zW p l e (zR 7 155) s m ([.ref a_m, .int u1, .int u2] : List Value).toArray below meth c Q 8 A G [(a_m, .inr (6, [.ref a_m_state, .ref a_m_readPage, .int m_toldOnce, .ref a_m_tape, .int m_taped, .int m_fault, .int m_broken, .int m_brokenAt, .int m_spot, .int m_here, .int m_token, .int m_value, .ref a_m_cuts, .ref a_m_letters, .int m_silent, .int m_greatest, .int m_moves, .int m_holders, .ref a_m_seen, .int m_seenMany, .ref a_m_pointBy, .ref a_m_isKept, .ref a_m_lanes, .ref a_m_lengths, .ref a_m_sheetCells, .int m_torn])), (a_m_state, .inl (k 0, 156, .inl x4.2.2.2.1)), (a_m_seen, .inl (k 0, 12, .inl m_seen)), (a_m_pointBy, .inl (k 0, 651, .inl x4.2.2.2.2))] [(0, .ref a_m), (1, .int u1), (2, .int u2), (3, .int v3), (4, .int x4.1), (5, .int x4.2.1), (6, .int x4.2.2.1)] 40 []) ?_ 1000 _ hv H locs ls hP hD hS (lv_sub hl [4, 5, 6, 3, 2, 1, 0] rfl)
      clear h
      intro x4 o h hC5 hX6 H locs ls hP hD hS hl
      unfold p_X6_spots_b40 at h
      refine lv_iload hx hb dX6_spots_40 (lv_at hl 6 rfl) ?_
      refine lv_bipush (v := 100) hx hb dX6_spots_42 (by decide) ?_
      refine lv_icmp_ge (tgt := 105) hx hb dX6_spots_44 (by decide) (fun c19 => ?_) (fun c19 => ?_)
      · have h := zit c19 h
        exact hJ7 _ (hX6 _ (zs h)) H locs ls hP hD hS (lv_sub hl [0, 1, 2, 3, 4, 5] rfl)
      · have h := zif c19 h
        refine lv_aload_n hx hb dX6_spots_47 rfl (lv_at hl 0 rfl) ?_
        refine va_get (D := G) (ci := 6) (v := .ref a_m_state) (C := RX6) (T := TX6) (N := 26) hx hb hts iw_X6_spots_X6 hown hK hP 0 rfl rfl 0 (by decide) (hts (.fieldLink RX6 7 "SpireLeanModel" "state" "[I") (List.mem_of_getElem? (i := 1) rfl)) (fun _ h9 => h9) rfl dX6_spots_48 ?_
        refine lv_bipush (v := 10) hx hb dX6_spots_51 (by decide) ?_
        refine lv_iload_n hx hb dX6_spots_53 rfl (lv_at hl 1 rfl) ?_
        refine lv_iadd hx hb dX6_spots_54 ?_
        refine lv_iload hx hb dX6_spots_55 (lv_at hl 6 rfl) ?_
        obtain ⟨v10, hv, h⟩ := zb h
        refine z_iast hx hb hK hP hD hS 1 0 rfl rfl hv dX6_spots_57 (fun H locs hP hD hS => ?_)
        have hP : va_P G vwCl [(a_m, .inr (6, [.ref a_m_state, .ref a_m_readPage, .int m_toldOnce, .ref a_m_tape, .int m_taped, .int m_fault, .int m_broken, .int m_brokenAt, .int m_spot, .int m_here, .int m_token, .int m_value, .ref a_m_cuts, .ref a_m_letters, .int m_silent, .int m_greatest, .int m_moves, .int m_holders, .ref a_m_seen, .int m_seenMany, .ref a_m_pointBy, .ref a_m_isKept, .ref a_m_lanes, .ref a_m_lengths, .ref a_m_sheetCells, .int m_torn])), (a_m_state, .inl (k 0, 156, .inl v10)), (a_m_seen, .inl (k 0, 12, .inl m_seen)), (a_m_pointBy, .inl (k 0, 651, .inl x4.2.2.2.2))] H := hP
        have hD : va_D A [(a_m, .inr (6, [.ref a_m_state, .ref a_m_readPage, .int m_toldOnce, .ref a_m_tape, .int m_taped, .int m_fault, .int m_broken, .int m_brokenAt, .int m_spot, .int m_here, .int m_token, .int m_value, .ref a_m_cuts, .ref a_m_letters, .int m_silent, .int m_greatest, .int m_moves, .int m_holders, .ref a_m_seen, .int m_seenMany, .ref a_m_pointBy, .ref a_m_isKept, .ref a_m_lanes, .ref a_m_lengths, .ref a_m_sheetCells, .int m_torn])), (a_m_state, .inl (k 0, 156, .inl v10)), (a_m_seen, .inl (k 0, 12, .inl m_seen)), (a_m_pointBy, .inl (k 0, 651, .inl x4.2.2.2.2))] := hD
        refine lv_aload_n hx hb dX6_spots_58 rfl (lv_at hl 0 rfl) ?_
        refine lv_iconst (v := 0) hx hb dX6_spots_59 (by decide) ?_
        obtain ⟨o11, hv, h⟩ := zb h
        refine z_goi (w2 := [(a_m, .inr (6, [.ref a_m_state, .ref a_m_readPage, .int m_toldOnce, .ref a_m_tape, .int m_taped, .int m_fault, .int m_broken, .int m_brokenAt, .int m_spot, .int m_here, .int m_token, .int m_value, .ref a_m_cuts, .ref a_m_letters, .int m_silent, .int m_greatest, .int m_moves, .int m_holders, .ref a_m_seen, .int m_seenMany, .ref a_m_pointBy, .ref a_m_isKept, .ref a_m_lanes, .ref a_m_lengths, .ref a_m_sheetCells, .int m_torn])), (a_m_state, .inl (k 0, 156, .inl o11.2.1)), (a_m_seen, .inl (k 0, 12, .inl m_seen)), (a_m_pointBy, .inl (k 0, 651, .inl o11.2.2))]) [0, 1, 2, 3] (va_runV (As := [.int (0 : Int32)]) (rest := []) ⟨hx, hb, hml, hown, hts⟩ (c_X6_isAsSeen l G k tL tM sK sV a_m a_m_state a_m_readPage a_m_tape a_m_cuts a_m_letters a_m_seen a_m_pointBy a_m_isKept a_m_lanes a_m_lengths a_m_sheetCells H.size m_toldOnce m_taped m_fault m_broken m_brokenAt m_spot m_here m_token m_value m_silent m_greatest m_moves m_holders m_seenMany m_torn v10 m_seen x4.2.2.2.2 (0 : Int32) o11 hv) (cwV 1 hts gX6_spots_X6_isAsSeen rfl rfl rfl (by decide +kernel) ⟨Nat.le_of_ble_eq_true rfl, Nat.le_of_ble_eq_true rfl⟩) (z_preV (wc := [(a_m, .inr (6, [.ref a_m_state, .ref a_m_readPage, .int m_toldOnce, .ref a_m_tape, .int m_taped, .int m_fault, .int m_broken, .int m_brokenAt, .int m_spot, .int m_here, .int m_token, .int m_value, .ref a_m_cuts, .ref a_m_letters, .int m_silent, .int m_greatest, .int m_moves, .int m_holders, .ref a_m_seen, .int m_seenMany, .ref a_m_pointBy, .ref a_m_isKept, .ref a_m_lanes, .ref a_m_lengths, .ref a_m_sheetCells, .int m_torn])), (a_m_state, .inl (k 0, 156, .inl v10)), (a_m_seen, .inl (k 0, 12, .inl m_seen)), (a_m_pointBy, .inl (k 0, 651, .inl x4.2.2.2.2))]) [0, 1, 2, 3] 0 6 hK hE hA hP hD hS (by decide) rfl rfl rfl) rfl rfl hl.1 rfl (lv_room (Nat.le_of_ble_eq_true rfl)) dX6_spots_60 ⟨Nat.le_refl _, Nat.le_refl _⟩) hA hP hD hS rfl rfl rfl rfl (fun H locs hP hD hS => ?_)
        refine lv_istore (lv' := [(7, .int o11.1), (0, .ref a_m), (1, .int u1), (2, .int u2), (3, .int v3), (4, .int x4.1), (5, .int x4.2.1), (6, .int x4.2.2.1)]) hx hb dX6_spots_63 hl (by decide) rfl (fun ls hl => ?_)
        refine lv_iload hx hb dX6_spots_65 (lv_at hl 0 rfl) ?_
        refine lv_if_eq (tgt := 80) hx hb dX6_spots_67 (by decide) (fun c18 => ?_) (fun c18 => ?_)
        · have h := zit c18 h
          refine lv_iload hx hb dX6_spots_80 (lv_at hl 6 rfl) ?_
          refine lv_istore (lv' := [(5, .int x4.2.1), (7, .int o11.1), (0, .ref a_m), (1, .int u1), (2, .int u2), (3, .int v3), (4, .int x4.1), (6, .int x4.2.2.1)]) hx hb dX6_spots_82 hl (by decide) rfl (fun ls hl => ?_)
          refine lv_iload hx hb dX6_spots_84 (lv_at hl 6 rfl) ?_
          refine lv_iload hx hb dX6_spots_86 (lv_at hl 1 rfl) ?_
          refine lv_if_eq (tgt := 95) hx hb dX6_spots_88 (by decide) (fun c12 => ?_) (fun c12 => ?_)
          · have h := zit c12 h
            refine lv_iconst (v := 0) hx hb dX6_spots_95 (by decide) ?_
            refine lv_iadd hx hb dX6_spots_96 ?_
            refine lv_istore (lv' := [(4, .int (x4.1 + (0 : Int32))), (5, .int x4.2.1), (7, .int o11.1), (0, .ref a_m), (1, .int u1), (2, .int u2), (3, .int v3), (6, .int x4.2.2.1)]) hx hb dX6_spots_97 hl (by decide) rfl (fun ls hl => ?_)
            refine lv_iinc (v := x4.2.2.1 + (1 : Int32)) (lv' := [(6, .int (x4.2.2.1 + (1 : Int32))), (4, .int (x4.1 + (0 : Int32))), (5, .int x4.2.1), (7, .int o11.1), (0, .ref a_m), (1, .int u1), (2, .int u2), (3, .int v3)]) hx hb dX6_spots_99 hl (k := 7) rfl rfl (by decide) rfl (fun ls hl => ?_)
            refine lv_goto (tgt := 40) hx hb dX6_spots_102 (by decide) ?_
            exact hC5 _ (zs h) H locs ls hP hD hS (lv_sub hl [4, 5, 6, 7, 1, 2, 0] rfl)
          · have h := zif c12 h
            refine lv_iconst (v := 1) hx hb dX6_spots_91 (by decide) ?_
            refine lv_goto (tgt := 96) hx hb dX6_spots_92 (by decide) ?_
            refine lv_iadd hx hb dX6_spots_96 ?_
            refine lv_istore (lv' := [(4, .int (x4.1 + (1 : Int32))), (5, .int x4.2.1), (7, .int o11.1), (0, .ref a_m), (1, .int u1), (2, .int u2), (3, .int v3), (6, .int x4.2.2.1)]) hx hb dX6_spots_97 hl (by decide) rfl (fun ls hl => ?_)
            refine lv_iinc (v := x4.2.2.1 + (1 : Int32)) (lv' := [(6, .int (x4.2.2.1 + (1 : Int32))), (4, .int (x4.1 + (1 : Int32))), (5, .int x4.2.1), (7, .int o11.1), (0, .ref a_m), (1, .int u1), (2, .int u2), (3, .int v3)]) hx hb dX6_spots_99 hl (k := 7) rfl rfl (by decide) rfl (fun ls hl => ?_)
            refine lv_goto (tgt := 40) hx hb dX6_spots_102 (by decide) ?_
            exact hC5 _ (zs h) H locs ls hP hD hS (lv_sub hl [4, 5, 6, 7, 1, 2, 0] rfl)
        · have h := zif c18 h
          refine lv_iload hx hb dX6_spots_70 (lv_at hl 5 rfl) ?_
          have hJ13 : ∀ (y14 : Int32), y14 = (if x4.1 = 0 then x4.2.2.1 else x4.2.1) → zW p l e (zR 7 155) s m ([.ref a_m, .int u1, .int u2] : List Value).toArray below meth c Q 8 A G [(a_m, .inr (6, [.ref a_m_state, .ref a_m_readPage, .int m_toldOnce, .ref a_m_tape, .int m_taped, .int m_fault, .int m_broken, .int m_brokenAt, .int m_spot, .int m_here, .int m_token, .int m_value, .ref a_m_cuts, .ref a_m_letters, .int m_silent, .int m_greatest, .int m_moves, .int m_holders, .ref a_m_seen, .int m_seenMany, .ref a_m_pointBy, .ref a_m_isKept, .ref a_m_lanes, .ref a_m_lengths, .ref a_m_sheetCells, .int m_torn])), (a_m_state, .inl (k 0, 156, .inl o11.2.1)), (a_m_seen, .inl (k 0, 12, .inl m_seen)), (a_m_pointBy, .inl (k 0, 651, .inl o11.2.2))] [(0, .ref a_m), (1, .int u1), (2, .int u2), (3, .int v3), (4, .int x4.1), (6, .int x4.2.2.1), (7, .int o11.1)] 82 [.int y14] := by
            intro y14 q15
            subst q15
            intro H locs ls hP hD hS hl
            refine lv_istore (lv' := [(5, .int (if x4.1 = 0 then x4.2.2.1 else x4.2.1)), (0, .ref a_m), (1, .int u1), (2, .int u2), (3, .int v3), (4, .int x4.1), (6, .int x4.2.2.1), (7, .int o11.1)]) hx hb dX6_spots_82 hl (by decide) rfl (fun ls hl => ?_)
            refine lv_iload hx hb dX6_spots_84 (lv_at hl 5 rfl) ?_
            refine lv_iload hx hb dX6_spots_86 (lv_at hl 7 rfl) ?_
            refine lv_if_eq (tgt := 95) hx hb dX6_spots_88 (by decide) (fun c17 => ?_) (fun c17 => ?_)
            · have h := zit c17 h
              refine lv_iconst (v := 0) hx hb dX6_spots_95 (by decide) ?_
              refine lv_iadd hx hb dX6_spots_96 ?_
              refine lv_istore (lv' := [(4, .int (x4.1 + (0 : Int32))), (5, .int (if x4.1 = 0 then x4.2.2.1 else x4.2.1)), (0, .ref a_m), (1, .int u1), (2, .int u2), (3, .int v3), (6, .int x4.2.2.1), (7, .int o11.1)]) hx hb dX6_spots_97 hl (by decide) rfl (fun ls hl => ?_)
              refine lv_iinc (v := x4.2.2.1 + (1 : Int32)) (lv' := [(6, .int (x4.2.2.1 + (1 : Int32))), (4, .int (x4.1 + (0 : Int32))), (5, .int (if x4.1 = 0 then x4.2.2.1 else x4.2.1)), (0, .ref a_m), (1, .int u1), (2, .int u2), (3, .int v3), (7, .int o11.1)]) hx hb dX6_spots_99 hl (k := 6) rfl rfl (by decide) rfl (fun ls hl => ?_)
              refine lv_goto (tgt := 40) hx hb dX6_spots_102 (by decide) ?_
              exact hC5 _ (zs h) H locs ls hP hD hS (lv_sub hl [3, 4, 5, 6, 1, 2, 0] rfl)
            · have h := zif c17 h
              refine lv_iconst (v := 1) hx hb dX6_spots_91 (by decide) ?_
              refine lv_goto (tgt := 96) hx hb dX6_spots_92 (by decide) ?_
              refine lv_iadd hx hb dX6_spots_96 ?_
              refine lv_istore (lv' := [(4, .int (x4.1 + (1 : Int32))), (5, .int (if x4.1 = 0 then x4.2.2.1 else x4.2.1)), (0, .ref a_m), (1, .int u1), (2, .int u2), (3, .int v3), (6, .int x4.2.2.1), (7, .int o11.1)]) hx hb dX6_spots_97 hl (by decide) rfl (fun ls hl => ?_)
              refine lv_iinc (v := x4.2.2.1 + (1 : Int32)) (lv' := [(6, .int (x4.2.2.1 + (1 : Int32))), (4, .int (x4.1 + (1 : Int32))), (5, .int (if x4.1 = 0 then x4.2.2.1 else x4.2.1)), (0, .ref a_m), (1, .int u1), (2, .int u2), (3, .int v3), (7, .int o11.1)]) hx hb dX6_spots_99 hl (k := 6) rfl rfl (by decide) rfl (fun ls hl => ?_)
              refine lv_goto (tgt := 40) hx hb dX6_spots_102 (by decide) ?_
              exact hC5 _ (zs h) H locs ls hP hD hS (lv_sub hl [3, 4, 5, 6, 1, 2, 0] rfl)
          refine lv_if_ne (tgt := 80) hx hb dX6_spots_72 (by decide) (fun c16 => ?_) (fun c16 => ?_)
          · refine lv_iload hx hb dX6_spots_80 (lv_at hl 6 rfl) ?_
            exact hJ13 _ (if_neg c16).symm H locs ls hP hD hS (lv_sub hl [1, 2, 3, 4, 5, 7, 0] rfl)
          · refine lv_iload hx hb dX6_spots_75 (lv_at hl 7 rfl) ?_
            refine lv_goto (tgt := 82) hx hb dX6_spots_77 (by decide) ?_
            exact hJ13 _ (if_pos c16).symm H locs ls hP hD hS (lv_sub hl [1, 2, 3, 4, 5, 7, 0] rfl)
    · have h := zit c22 h
      refine lv_iconst (v := (-1)) hx hb dX6_spots_18 (by decide) ?_
      have hr := (zs h)
      subst hr
      exact hret H locs ls 19 hP hS dX6_spots_19
set_option maxHeartbeats 4000000 in
set_option maxRecDepth 100000 in
theorem c_X6_bitsOf (l : Launch) (G : va_G) (k : Nat → ClassId) (tL tM : Nat) (sK sV : Nat → Nat) (sz : Nat) (u1 : Int32) (out : Int32) (h : p_X6_bitsOf u1 = some out) : zMi l yX6_bitsOf wsX6_bitsOf 0 0 G k tL tM sK sV [.int u1] [] [] out sz := by
  refine z_meti (cc := cX6_bitsOf) (maxL := 3) (by decide) rfl (Nat.le_of_ble_eq_true rfl) ?_
  intro p e s m below meth c A Q H locs ls hx hb hml hts hown hA hK hE hret hP hD hS hl
  have hown : s.vm.findClass RX6 = some m.cls := hown
  have hl : lv_has ls 3 [(0, .int u1)] := hl
  unfold p_X6_bitsOf at h
  refine lv_iconst (v := 0) hx hb dX6_bitsOf_0 (by decide) ?_
  refine lv_istore_n (lv' := [(1, .int (0 : Int32)), (0, .int u1)]) hx hb dX6_bitsOf_1 rfl hl (by decide) rfl (fun ls hl => ?_)
  refine lv_iload_n hx hb dX6_bitsOf_2 rfl (lv_at hl 1 rfl) ?_
  refine lv_istore_n (lv' := [(2, .int u1), (1, .int (0 : Int32)), (0, .int u1)]) hx hb dX6_bitsOf_3 rfl hl (by decide) rfl (fun ls hl => ?_)
  obtain ⟨e5, hv, h⟩ := zb h
  have hJ4 : ∀ (e5_ : Int32), e5_ = e5 → zW p l e (zR 0 0) s m ([.int u1] : List Value).toArray below meth c Q 3 A G [] [(1, .int e5_)] 21 [] := by
    intro e5_ hz
    subst hz
    intro H locs ls hP hD hS hl
    refine lv_iload_n hx hb dX6_bitsOf_21 rfl (lv_at hl 0 rfl) ?_
    have hr := (zs h)
    subst hr
    exact hret H locs ls 22 hP hS dX6_bitsOf_22
  refine z_lpW (Wh := fun (x1 : Int32 × Int32) => zW p l e (zR 0 0) s m ([.int u1] : List Value).toArray below meth c Q 3 A G [] [(1, .int x1.1), (2, .int x1.2)] 4 []) ?_ 1000 _ hv H locs ls hP hD hS (lv_sub hl [1, 0] rfl)
  clear h
  intro x1 o h hC2 hX3 H locs ls hP hD hS hl
  unfold p_X6_bitsOf_b4 at h
  refine lv_iload_n hx hb dX6_bitsOf_4 rfl (lv_at hl 1 rfl) ?_
  refine lv_if_le (tgt := 21) hx hb dX6_bitsOf_5 (by decide) (fun c7 => ?_) (fun c7 => ?_)
  · have h := zit c7 h
    exact hJ4 _ (hX3 _ (zs h)) H locs ls hP hD hS (lv_sub hl [0] rfl)
  · have h := zif c7 h
    refine lv_iload_n hx hb dX6_bitsOf_8 rfl (lv_at hl 0 rfl) ?_
    refine lv_iload_n hx hb dX6_bitsOf_9 rfl (lv_at hl 1 rfl) ?_
    refine lv_iconst (v := 1) hx hb dX6_bitsOf_10 (by decide) ?_
    refine lv_iand hx hb dX6_bitsOf_11 ?_
    refine lv_iadd hx hb dX6_bitsOf_12 ?_
    refine lv_istore_n (lv' := [(1, .int (x1.1 + (x1.2 &&& (1 : Int32)))), (2, .int x1.2)]) hx hb dX6_bitsOf_13 rfl hl (by decide) rfl (fun ls hl => ?_)
    refine lv_iload_n hx hb dX6_bitsOf_14 rfl (lv_at hl 1 rfl) ?_
    refine lv_iconst (v := 1) hx hb dX6_bitsOf_15 (by decide) ?_
    refine lv_ishr hx hb dX6_bitsOf_16 ?_
    refine lv_istore_n (lv' := [(2, .int (x1.2 >>> ((1 : Int32) &&& 31))), (1, .int (x1.1 + (x1.2 &&& (1 : Int32))))]) hx hb dX6_bitsOf_17 rfl hl (by decide) rfl (fun ls hl => ?_)
    refine lv_goto (tgt := 4) hx hb dX6_bitsOf_18 (by decide) ?_
    exact hC2 _ (zs h) H locs ls hP hD hS (lv_sub hl [1, 0] rfl)
theorem iw_X6_ask_X6 : ∀ w ∈ wsX60, w ∈ wsX6_ask := fun _ h => List.mem_cons_of_mem _ (List.mem_append_right _ h)
set_option maxHeartbeats 4000000 in
set_option maxRecDepth 100000 in
theorem c_X6_ask (l : Launch) (G : va_G) (k : Nat → ClassId) (tL tM : Nat) (sK sV : Nat → Nat) (a_m : Nat) (a_m_state : Nat) (a_m_readPage : Nat) (a_m_tape : Nat) (a_m_cuts : Nat) (a_m_letters : Nat) (a_m_seen : Nat) (a_m_pointBy : Nat) (a_m_isKept : Nat) (a_m_lanes : Nat) (a_m_lengths : Nat) (a_m_sheetCells : Nat) (sz : Nat) (m_toldOnce : Int32) (m_taped : Int32) (m_fault : Int32) (m_broken : Int32) (m_brokenAt : Int32) (m_spot : Int32) (m_here : Int32) (m_token : Int32) (m_value : Int32) (m_silent : Int32) (m_greatest : Int32) (m_moves : Int32) (m_holders : Int32) (m_seenMany : Int32) (m_torn : Int32) (m_state : Nat → Int32) (m_seen : Nat → Int32) (m_pointBy : Nat → Int32) (u1 : Int32) (u2 : Int32) (out : Int32 × (Nat → Int32) × (Nat → Int32)) (h : p_X6_ask u1 u2 m_silent m_seenMany m_state m_seen m_pointBy = some out) : zMi l yX6_ask wsX6_ask 8 179 G k tL tM sK sV [.ref a_m, .int u1, .int u2] [(a_m, .inr (6, [.ref a_m_state, .ref a_m_readPage, .int m_toldOnce, .ref a_m_tape, .int m_taped, .int m_fault, .int m_broken, .int m_brokenAt, .int m_spot, .int m_here, .int m_token, .int m_value, .ref a_m_cuts, .ref a_m_letters, .int m_silent, .int m_greatest, .int m_moves, .int m_holders, .ref a_m_seen, .int m_seenMany, .ref a_m_pointBy, .ref a_m_isKept, .ref a_m_lanes, .ref a_m_lengths, .ref a_m_sheetCells, .int m_torn])), (a_m_state, .inl (k 0, 156, .inl m_state)), (a_m_seen, .inl (k 0, 12, .inl m_seen)), (a_m_pointBy, .inl (k 0, 651, .inl m_pointBy))] [(a_m, .inr (6, [.ref a_m_state, .ref a_m_readPage, .int m_toldOnce, .ref a_m_tape, .int m_taped, .int m_fault, .int m_broken, .int m_brokenAt, .int m_spot, .int m_here, .int m_token, .int m_value, .ref a_m_cuts, .ref a_m_letters, .int m_silent, .int m_greatest, .int m_moves, .int m_holders, .ref a_m_seen, .int m_seenMany, .ref a_m_pointBy, .ref a_m_isKept, .ref a_m_lanes, .ref a_m_lengths, .ref a_m_sheetCells, .int m_torn])), (a_m_state, .inl (k 0, 156, .inl out.2.1)), (a_m_seen, .inl (k 0, 12, .inl m_seen)), (a_m_pointBy, .inl (k 0, 651, .inl out.2.2))] out.1 sz := by
  refine z_meti (cc := cX6_ask) (maxL := 11) (by decide) rfl (Nat.le_of_ble_eq_true rfl) ?_
  intro p e s m below meth c A Q H locs ls hx hb hml hts hown hA hK hE hret hP hD hS hl
  have hown : s.vm.findClass RX6 = some m.cls := hown
  have hl : lv_has ls 11 [(0, .ref a_m), (1, .int u1), (2, .int u2)] := hl
  unfold p_X6_ask at h
  refine lv_aload_n hx hb dX6_ask_0 rfl (lv_at hl 0 rfl) ?_
  refine lv_iload_n hx hb dX6_ask_1 rfl (lv_at hl 1 rfl) ?_
  obtain ⟨o1, hv, h⟩ := zb h
  refine z_goi (w2 := [(a_m, .inr (6, [.ref a_m_state, .ref a_m_readPage, .int m_toldOnce, .ref a_m_tape, .int m_taped, .int m_fault, .int m_broken, .int m_brokenAt, .int m_spot, .int m_here, .int m_token, .int m_value, .ref a_m_cuts, .ref a_m_letters, .int m_silent, .int m_greatest, .int m_moves, .int m_holders, .ref a_m_seen, .int m_seenMany, .ref a_m_pointBy, .ref a_m_isKept, .ref a_m_lanes, .ref a_m_lengths, .ref a_m_sheetCells, .int m_torn])), (a_m_state, .inl (k 0, 156, .inl m_state)), (a_m_seen, .inl (k 0, 12, .inl m_seen)), (a_m_pointBy, .inl (k 0, 651, .inl m_pointBy))]) [0, 1] (va_runV (As := [.int u1]) (rest := []) ⟨hx, hb, hml, hown, hts⟩ (c_X6_isDraw l G k tL tM sK sV a_m a_m_state a_m_readPage a_m_tape a_m_cuts a_m_letters a_m_seen a_m_pointBy a_m_isKept a_m_lanes a_m_lengths a_m_sheetCells H.size m_toldOnce m_taped m_fault m_broken m_brokenAt m_spot m_here m_token m_value m_silent m_greatest m_moves m_holders m_seenMany m_torn m_state u1 o1 hv) (cwV 1 hts gX6_ask_X6_isDraw rfl rfl rfl (by decide +kernel) ⟨Nat.le_of_ble_eq_true rfl, Nat.le_of_ble_eq_true rfl⟩) (z_preV (wc := [(a_m, .inr (6, [.ref a_m_state, .ref a_m_readPage, .int m_toldOnce, .ref a_m_tape, .int m_taped, .int m_fault, .int m_broken, .int m_brokenAt, .int m_spot, .int m_here, .int m_token, .int m_value, .ref a_m_cuts, .ref a_m_letters, .int m_silent, .int m_greatest, .int m_moves, .int m_holders, .ref a_m_seen, .int m_seenMany, .ref a_m_pointBy, .ref a_m_isKept, .ref a_m_lanes, .ref a_m_lengths, .ref a_m_sheetCells, .int m_torn])), (a_m_state, .inl (k 0, 156, .inl m_state))]) [0, 1] 0 6 hK hE hA hP hD hS (by decide) rfl rfl rfl) rfl rfl hl.1 rfl (lv_room (Nat.le_of_ble_eq_true rfl)) dX6_ask_2 ⟨Nat.le_refl _, Nat.le_refl _⟩) hA hP hD hS rfl rfl rfl rfl (fun H locs hP hD hS => ?_)
  refine lv_if_eq (tgt := 18) hx hb dX6_ask_5 (by decide) (fun c40 => ?_) (fun c40 => ?_)
  · have h := zit c40 h
    refine lv_iconst (v := (-1)) hx hb dX6_ask_18 (by decide) ?_
    have hr := (zs h)
    subst hr
    exact hret H locs ls 19 hP hS dX6_ask_19
  · have h := zif c40 h
    refine lv_iload_n hx hb dX6_ask_8 rfl (lv_at hl 2 rfl) ?_
    refine lv_i2l (v := u2.toInt64) hx hb dX6_ask_9 rfl ?_
    refine lv_lconst (v := 0) hx hb dX6_ask_10 (by decide) ?_
    refine lv_lconst (v := 1) hx hb dX6_ask_11 (by decide) ?_
    obtain ⟨o2, hv, h⟩ := zb h
    refine z_goi (w2 := [(a_m, .inr (6, [.ref a_m_state, .ref a_m_readPage, .int m_toldOnce, .ref a_m_tape, .int m_taped, .int m_fault, .int m_broken, .int m_brokenAt, .int m_spot, .int m_here, .int m_token, .int m_value, .ref a_m_cuts, .ref a_m_letters, .int m_silent, .int m_greatest, .int m_moves, .int m_holders, .ref a_m_seen, .int m_seenMany, .ref a_m_pointBy, .ref a_m_isKept, .ref a_m_lanes, .ref a_m_lengths, .ref a_m_sheetCells, .int m_torn])), (a_m_state, .inl (k 0, 156, .inl m_state)), (a_m_seen, .inl (k 0, 12, .inl m_seen)), (a_m_pointBy, .inl (k 0, 651, .inl m_pointBy))]) [] (va_runS (As := [.long u2.toInt64, .long (0 : Int64), .long (1 : Int64)]) (rest := []) ⟨hx, hb, hml, hown, hts⟩ (c_X6_in l G k tL tM sK sV H.size u2.toInt64 (0 : Int64) (1 : Int64) o2 hv) (va_cwS 3 hts gX6_ask_X6_in rfl rfl rfl (by decide +kernel) ⟨Nat.le_of_ble_eq_true rfl, Nat.le_of_ble_eq_true rfl⟩) (z_preS (wc := []) [] hK hE hA hP hD hS (by decide) rfl) rfl rfl hl.1 rfl (lv_room (Nat.le_of_ble_eq_true rfl)) dX6_ask_12 ⟨Nat.le_refl _, Nat.le_refl _⟩) hA hP hD hS rfl rfl rfl rfl (fun H locs hP hD hS => ?_)
    refine lv_if_ne (tgt := 20) hx hb dX6_ask_15 (by decide) (fun c39 => ?_) (fun c39 => ?_)
    · have h := zif c39 h
      refine lv_aload_n hx hb dX6_ask_20 rfl (lv_at hl 0 rfl) ?_
      refine lv_iload_n hx hb dX6_ask_21 rfl (lv_at hl 1 rfl) ?_
      obtain ⟨o3, hv, h⟩ := zb h
      refine z_goi (w2 := [(a_m, .inr (6, [.ref a_m_state, .ref a_m_readPage, .int m_toldOnce, .ref a_m_tape, .int m_taped, .int m_fault, .int m_broken, .int m_brokenAt, .int m_spot, .int m_here, .int m_token, .int m_value, .ref a_m_cuts, .ref a_m_letters, .int m_silent, .int m_greatest, .int m_moves, .int m_holders, .ref a_m_seen, .int m_seenMany, .ref a_m_pointBy, .ref a_m_isKept, .ref a_m_lanes, .ref a_m_lengths, .ref a_m_sheetCells, .int m_torn])), (a_m_state, .inl (k 0, 156, .inl o3.2.1)), (a_m_seen, .inl (k 0, 12, .inl m_seen)), (a_m_pointBy, .inl (k 0, 651, .inl o3.2.2))]) [0, 1, 2, 3] (va_runV (As := [.int u1]) (rest := []) ⟨hx, hb, hml, hown, hts⟩ (c_X6_pullsOf l G k tL tM sK sV a_m a_m_state a_m_readPage a_m_tape a_m_cuts a_m_letters a_m_seen a_m_pointBy a_m_isKept a_m_lanes a_m_lengths a_m_sheetCells H.size m_toldOnce m_taped m_fault m_broken m_brokenAt m_spot m_here m_token m_value m_silent m_greatest m_moves m_holders m_seenMany m_torn m_state m_seen m_pointBy u1 o3 hv) (cwV 1 hts gX6_ask_X6_pullsOf rfl rfl rfl (by decide +kernel) ⟨Nat.le_of_ble_eq_true rfl, Nat.le_of_ble_eq_true rfl⟩) (z_preV (wc := [(a_m, .inr (6, [.ref a_m_state, .ref a_m_readPage, .int m_toldOnce, .ref a_m_tape, .int m_taped, .int m_fault, .int m_broken, .int m_brokenAt, .int m_spot, .int m_here, .int m_token, .int m_value, .ref a_m_cuts, .ref a_m_letters, .int m_silent, .int m_greatest, .int m_moves, .int m_holders, .ref a_m_seen, .int m_seenMany, .ref a_m_pointBy, .ref a_m_isKept, .ref a_m_lanes, .ref a_m_lengths, .ref a_m_sheetCells, .int m_torn])), (a_m_state, .inl (k 0, 156, .inl m_state)), (a_m_seen, .inl (k 0, 12, .inl m_seen)), (a_m_pointBy, .inl (k 0, 651, .inl m_pointBy))]) [0, 1, 2, 3] 0 6 hK hE hA hP hD hS (by decide) rfl rfl rfl) rfl rfl hl.1 rfl (lv_room (Nat.le_of_ble_eq_true rfl)) dX6_ask_22 ⟨Nat.le_refl _, Nat.le_refl _⟩) hA hP hD hS rfl rfl rfl rfl (fun H locs hP hD hS => ?_)
      refine lv_istore_n (lv' := [(3, .int o3.1), (0, .ref a_m), (1, .int u1), (2, .int u2)]) hx hb dX6_ask_25 rfl hl (by decide) rfl (fun ls hl => ?_)
      refine lv_iload_n hx hb dX6_ask_26 rfl (lv_at hl 0 rfl) ?_
      obtain ⟨o4, hv, h⟩ := zb h
      refine z_goi (w2 := [(a_m, .inr (6, [.ref a_m_state, .ref a_m_readPage, .int m_toldOnce, .ref a_m_tape, .int m_taped, .int m_fault, .int m_broken, .int m_brokenAt, .int m_spot, .int m_here, .int m_token, .int m_value, .ref a_m_cuts, .ref a_m_letters, .int m_silent, .int m_greatest, .int m_moves, .int m_holders, .ref a_m_seen, .int m_seenMany, .ref a_m_pointBy, .ref a_m_isKept, .ref a_m_lanes, .ref a_m_lengths, .ref a_m_sheetCells, .int m_torn])), (a_m_state, .inl (k 0, 156, .inl o3.2.1)), (a_m_seen, .inl (k 0, 12, .inl m_seen)), (a_m_pointBy, .inl (k 0, 651, .inl o3.2.2))]) [] (va_runS (As := [.int o3.1]) (rest := []) ⟨hx, hb, hml, hown, hts⟩ (c_X6_bitsOf l G k tL tM sK sV H.size o3.1 o4 hv) (va_cwS 1 hts gX6_ask_X6_bitsOf rfl rfl rfl (by decide +kernel) ⟨Nat.le_of_ble_eq_true rfl, Nat.le_of_ble_eq_true rfl⟩) (z_preS (wc := []) [] hK hE hA hP hD hS (by decide) rfl) rfl rfl hl.1 rfl (lv_room (Nat.le_of_ble_eq_true rfl)) dX6_ask_27 ⟨Nat.le_refl _, Nat.le_refl _⟩) hA hP hD hS rfl rfl rfl rfl (fun H locs hP hD hS => ?_)
      refine lv_istore (lv' := [(4, .int o4), (3, .int o3.1), (0, .ref a_m), (1, .int u1), (2, .int u2)]) hx hb dX6_ask_30 hl (by decide) rfl (fun ls hl => ?_)
      refine lv_bipush (v := (-4)) hx hb dX6_ask_32 (by decide) ?_
      refine lv_istore (lv' := [(5, .int (-4 : Int32)), (4, .int o4), (3, .int o3.1), (0, .ref a_m), (1, .int u1), (2, .int u2)]) hx hb dX6_ask_34 hl (by decide) rfl (fun ls hl => ?_)
      refine lv_iconst (v := 0) hx hb dX6_ask_36 (by decide) ?_
      refine lv_istore (lv' := [(6, .int (0 : Int32)), (5, .int (-4 : Int32)), (4, .int o4), (3, .int o3.1), (0, .ref a_m), (1, .int u1), (2, .int u2)]) hx hb dX6_ask_37 hl (by decide) rfl (fun ls hl => ?_)
      obtain ⟨e9, hv, h⟩ := zb h
      have hJ8 : ∀ (e9_ : Int32 × Int32), e9_ = e9 → zW p l e (zR 8 179) s m ([.ref a_m, .int u1, .int u2] : List Value).toArray below meth c Q 11 A G [(a_m, .inr (6, [.ref a_m_state, .ref a_m_readPage, .int m_toldOnce, .ref a_m_tape, .int m_taped, .int m_fault, .int m_broken, .int m_brokenAt, .int m_spot, .int m_here, .int m_token, .int m_value, .ref a_m_cuts, .ref a_m_letters, .int m_silent, .int m_greatest, .int m_moves, .int m_holders, .ref a_m_seen, .int m_seenMany, .ref a_m_pointBy, .ref a_m_isKept, .ref a_m_lanes, .ref a_m_lengths, .ref a_m_sheetCells, .int m_torn])), (a_m_state, .inl (k 0, 156, .inl o3.2.1)), (a_m_seen, .inl (k 0, 12, .inl m_seen)), (a_m_pointBy, .inl (k 0, 651, .inl o3.2.2))] [(2, .int u2), (4, .int e9_.1), (5, .int e9_.2)] 197 [] := by
        intro e9_ hz
        subst hz
        intro H locs ls hP hD hS hl
        refine lv_iload hx hb dX6_ask_197 (lv_at hl 2 rfl) ?_
        refine lv_bipush (v := (-4)) hx hb dX6_ask_199 (by decide) ?_
        refine lv_icmp_eq (tgt := 208) hx hb dX6_ask_201 (by decide) (fun c38 => ?_) (fun c38 => ?_)
        · have h := zit c38 h
          refine lv_iload hx hb dX6_ask_208 (lv_at hl 2 rfl) ?_
          refine lv_goto (tgt := 215) hx hb dX6_ask_210 (by decide) ?_
          have hr := (zs h)
          subst hr
          exact hret H locs ls 215 hP hS dX6_ask_215
        · have h := zif c38 h
          refine lv_iload_n hx hb dX6_ask_204 rfl (lv_at hl 0 rfl) ?_
          refine lv_if_ne (tgt := 213) hx hb dX6_ask_205 (by decide) (fun c37 => ?_) (fun c37 => ?_)
          · have h := zif c37 h
            refine lv_iload hx hb dX6_ask_213 (lv_at hl 1 rfl) ?_
            have hr := (zs h)
            subst hr
            exact hret H locs ls 215 hP hS dX6_ask_215
          · have h := zit c37 h
            refine lv_iload hx hb dX6_ask_208 (lv_at hl 2 rfl) ?_
            refine lv_goto (tgt := 215) hx hb dX6_ask_210 (by decide) ?_
            have hr := (zs h)
            subst hr
            exact hret H locs ls 215 hP hS dX6_ask_215
      refine z_lpW (Wh := fun (x5 : Int32 × Int32 × Int32) => zW p l e (zR 8 179) s m ([.ref a_m, .int u1, .int u2] : List Value).toArray below meth c Q 11 A G [(a_m, .inr (6, [.ref a_m_state, .ref a_m_readPage, .int m_toldOnce, .ref a_m_tape, .int m_taped, .int m_fault, .int m_broken, .int m_brokenAt, .int m_spot, .int m_here, .int m_token, .int m_value, .ref a_m_cuts, .ref a_m_letters, .int m_silent, .int m_greatest, .int m_moves, .int m_holders, .ref a_m_seen, .int m_seenMany, .ref a_m_pointBy, .ref a_m_isKept, .ref a_m_lanes, .ref a_m_lengths, .ref a_m_sheetCells, .int m_torn])), (a_m_state, .inl (k 0, 156, .inl o3.2.1)), (a_m_seen, .inl (k 0, 12, .inl m_seen)), (a_m_pointBy, .inl (k 0, 651, .inl o3.2.2))] [(0, .ref a_m), (2, .int u2), (3, .int o3.1), (4, .int x5.1), (5, .int x5.2.1), (6, .int x5.2.2)] 39 []) ?_ 1000 _ hv H locs ls hP hD hS (lv_sub hl [4, 6, 3, 2, 1, 0] rfl)
      clear h
      intro x5 o h hC6 hX7 H locs ls hP hD hS hl
      unfold p_X6_ask_b39 at h
      refine lv_iload hx hb dX6_ask_39 (lv_at hl 5 rfl) ?_
      refine lv_bipush (v := 30) hx hb dX6_ask_41 (by decide) ?_
      refine lv_icmp_gt (tgt := 197) hx hb dX6_ask_43 (by decide) (fun c36 => ?_) (fun c36 => ?_)
      · have h := zit c36 h
        exact hJ8 _ (hX7 _ (zs h)) H locs ls hP hD hS (lv_sub hl [1, 3, 4] rfl)
      · have h := zif c36 h
        refine lv_iconst (v := 0) hx hb dX6_ask_46 (by decide) ?_
        refine lv_istore (lv' := [(7, .int (0 : Int32)), (0, .ref a_m), (2, .int u2), (3, .int o3.1), (4, .int x5.1), (5, .int x5.2.1), (6, .int x5.2.2)]) hx hb dX6_ask_47 hl (by decide) rfl (fun ls hl => ?_)
        refine lv_iconst (v := 1) hx hb dX6_ask_49 (by decide) ?_
        refine lv_istore (lv' := [(8, .int (1 : Int32)), (7, .int (0 : Int32)), (0, .ref a_m), (2, .int u2), (3, .int o3.1), (4, .int x5.1), (5, .int x5.2.1), (6, .int x5.2.2)]) hx hb dX6_ask_50 hl (by decide) rfl (fun ls hl => ?_)
        obtain ⟨e15, hv, h⟩ := zb h
        have hJ14 : ∀ (e15_ : Int32), e15_ = e15 → zW p l e (zR 8 179) s m ([.ref a_m, .int u1, .int u2] : List Value).toArray below meth c Q 11 A G [(a_m, .inr (6, [.ref a_m_state, .ref a_m_readPage, .int m_toldOnce, .ref a_m_tape, .int m_taped, .int m_fault, .int m_broken, .int m_brokenAt, .int m_spot, .int m_here, .int m_token, .int m_value, .ref a_m_cuts, .ref a_m_letters, .int m_silent, .int m_greatest, .int m_moves, .int m_holders, .ref a_m_seen, .int m_seenMany, .ref a_m_pointBy, .ref a_m_isKept, .ref a_m_lanes, .ref a_m_lengths, .ref a_m_sheetCells, .int m_torn])), (a_m_state, .inl (k 0, 156, .inl o3.2.1)), (a_m_seen, .inl (k 0, 12, .inl m_seen)), (a_m_pointBy, .inl (k 0, 651, .inl o3.2.2))] [(0, .ref a_m), (2, .int u2), (3, .int o3.1), (4, .int x5.1), (5, .int x5.2.1), (6, .int x5.2.2), (7, .int e15_)] 159 [] := by
          intro e15_ hz
          subst hz
          intro H locs ls hP hD hS hl
          refine lv_iload hx hb dX6_ask_159 (lv_at hl 6 rfl) ?_
          refine lv_iload hx hb dX6_ask_161 (lv_at hl 3 rfl) ?_
          have hJ31 : ∀ (y32 : Int32), y32 = (if x5.1 ≤ e15_ then x5.2.1 else x5.2.2) → zW p l e (zR 8 179) s m ([.ref a_m, .int u1, .int u2] : List Value).toArray below meth c Q 11 A G [(a_m, .inr (6, [.ref a_m_state, .ref a_m_readPage, .int m_toldOnce, .ref a_m_tape, .int m_taped, .int m_fault, .int m_broken, .int m_brokenAt, .int m_spot, .int m_here, .int m_token, .int m_value, .ref a_m_cuts, .ref a_m_letters, .int m_silent, .int m_greatest, .int m_moves, .int m_holders, .ref a_m_seen, .int m_seenMany, .ref a_m_pointBy, .ref a_m_isKept, .ref a_m_lanes, .ref a_m_lengths, .ref a_m_sheetCells, .int m_torn])), (a_m_state, .inl (k 0, 156, .inl o3.2.1)), (a_m_seen, .inl (k 0, 12, .inl m_seen)), (a_m_pointBy, .inl (k 0, 651, .inl o3.2.2))] [(0, .ref a_m), (2, .int u2), (3, .int o3.1), (4, .int x5.1), (6, .int x5.2.2), (7, .int e15_)] 173 [.int y32] := by
            intro y32 q33
            subst q33
            intro H locs ls hP hD hS hl
            refine lv_istore (lv' := [(5, .int (if x5.1 ≤ e15_ then x5.2.1 else x5.2.2)), (0, .ref a_m), (2, .int u2), (3, .int o3.1), (4, .int x5.1), (6, .int x5.2.2), (7, .int e15_)]) hx hb dX6_ask_173 hl (by decide) rfl (fun ls hl => ?_)
            refine lv_iload hx hb dX6_ask_175 (lv_at hl 6 rfl) ?_
            refine lv_iload hx hb dX6_ask_177 (lv_at hl 4 rfl) ?_
            refine lv_icmp_ge (tgt := 187) hx hb dX6_ask_179 (by decide) (fun c35 => ?_) (fun c35 => ?_)
            · have h := zit c35 h
              refine lv_iload hx hb dX6_ask_187 (lv_at hl 4 rfl) ?_
              refine lv_istore (lv' := [(4, .int x5.1), (5, .int (if x5.1 ≤ e15_ then x5.2.1 else x5.2.2)), (0, .ref a_m), (2, .int u2), (3, .int o3.1), (6, .int x5.2.2), (7, .int e15_)]) hx hb dX6_ask_189 hl (by decide) rfl (fun ls hl => ?_)
              refine lv_iinc (v := x5.2.2 + (1 : Int32)) (lv' := [(6, .int (x5.2.2 + (1 : Int32))), (4, .int x5.1), (5, .int (if x5.1 ≤ e15_ then x5.2.1 else x5.2.2)), (0, .ref a_m), (2, .int u2), (3, .int o3.1), (7, .int e15_)]) hx hb dX6_ask_191 hl (k := 5) rfl rfl (by decide) rfl (fun ls hl => ?_)
              refine lv_goto (tgt := 39) hx hb dX6_ask_194 (by decide) ?_
              exact hC6 _ (zs h) H locs ls hP hD hS (lv_sub hl [3, 4, 5, 1, 2, 0] rfl)
            · have h := zif c35 h
              refine lv_iload hx hb dX6_ask_182 (lv_at hl 6 rfl) ?_
              refine lv_goto (tgt := 189) hx hb dX6_ask_184 (by decide) ?_
              refine lv_istore (lv' := [(4, .int e15_), (5, .int (if x5.1 ≤ e15_ then x5.2.1 else x5.2.2)), (0, .ref a_m), (2, .int u2), (3, .int o3.1), (6, .int x5.2.2), (7, .int e15_)]) hx hb dX6_ask_189 hl (by decide) rfl (fun ls hl => ?_)
              refine lv_iinc (v := x5.2.2 + (1 : Int32)) (lv' := [(6, .int (x5.2.2 + (1 : Int32))), (4, .int e15_), (5, .int (if x5.1 ≤ e15_ then x5.2.1 else x5.2.2)), (0, .ref a_m), (2, .int u2), (3, .int o3.1), (7, .int e15_)]) hx hb dX6_ask_191 hl (k := 5) rfl rfl (by decide) rfl (fun ls hl => ?_)
              refine lv_goto (tgt := 39) hx hb dX6_ask_194 (by decide) ?_
              exact hC6 _ (zs h) H locs ls hP hD hS (lv_sub hl [3, 4, 5, 1, 2, 0] rfl)
          refine lv_icmp_ge (tgt := 171) hx hb dX6_ask_163 (by decide) (fun c34 => ?_) (fun c34 => ?_)
          · refine lv_iload hx hb dX6_ask_171 (lv_at hl 4 rfl) ?_
            exact hJ31 _ (if_pos c34).symm H locs ls hP hD hS (lv_sub hl [0, 1, 2, 3, 5, 6] rfl)
          · refine lv_iload hx hb dX6_ask_166 (lv_at hl 5 rfl) ?_
            refine lv_goto (tgt := 173) hx hb dX6_ask_168 (by decide) ?_
            exact hJ31 _ (if_neg c34).symm H locs ls hP hD hS (lv_sub hl [0, 1, 2, 3, 5, 6] rfl)
        refine z_lpW (Wh := fun (x11 : Int32 × Int32) => zW p l e (zR 8 179) s m ([.ref a_m, .int u1, .int u2] : List Value).toArray below meth c Q 11 A G [(a_m, .inr (6, [.ref a_m_state, .ref a_m_readPage, .int m_toldOnce, .ref a_m_tape, .int m_taped, .int m_fault, .int m_broken, .int m_brokenAt, .int m_spot, .int m_here, .int m_token, .int m_value, .ref a_m_cuts, .ref a_m_letters, .int m_silent, .int m_greatest, .int m_moves, .int m_holders, .ref a_m_seen, .int m_seenMany, .ref a_m_pointBy, .ref a_m_isKept, .ref a_m_lanes, .ref a_m_lengths, .ref a_m_sheetCells, .int m_torn])), (a_m_state, .inl (k 0, 156, .inl o3.2.1)), (a_m_seen, .inl (k 0, 12, .inl m_seen)), (a_m_pointBy, .inl (k 0, 651, .inl o3.2.2))] [(0, .ref a_m), (2, .int u2), (3, .int o3.1), (4, .int x5.1), (5, .int x5.2.1), (6, .int x5.2.2), (7, .int x11.1), (8, .int x11.2)] 52 []) ?_ 1000 _ hv H locs ls hP hD hS (lv_sub hl [2, 3, 4, 5, 6, 7, 1, 0] rfl)
        clear h
        intro x11 o h hC12 hX13 H locs ls hP hD hS hl
        unfold p_X6_ask_b52 at h
        refine lv_iload hx hb dX6_ask_52 (lv_at hl 7 rfl) ?_
        refine lv_bipush (v := 20) hx hb dX6_ask_54 (by decide) ?_
        refine lv_icmp_gt (tgt := 159) hx hb dX6_ask_56 (by decide) (fun c30 => ?_) (fun c30 => ?_)
        · have h := zit c30 h
          exact hJ14 _ (hX13 _ (zs h)) H locs ls hP hD hS (lv_sub hl [0, 1, 2, 3, 4, 5, 6] rfl)
        · have h := zif c30 h
          refine lv_iconst (v := 0) hx hb dX6_ask_59 (by decide) ?_
          refine lv_istore (lv' := [(9, .int (0 : Int32)), (0, .ref a_m), (2, .int u2), (3, .int o3.1), (4, .int x5.1), (5, .int x5.2.1), (6, .int x5.2.2), (7, .int x11.1), (8, .int x11.2)]) hx hb dX6_ask_60 hl (by decide) rfl (fun ls hl => ?_)
          refine lv_iconst (v := 1) hx hb dX6_ask_62 (by decide) ?_
          refine lv_istore (lv' := [(10, .int (1 : Int32)), (9, .int (0 : Int32)), (0, .ref a_m), (2, .int u2), (3, .int o3.1), (4, .int x5.1), (5, .int x5.2.1), (6, .int x5.2.2), (7, .int x11.1), (8, .int x11.2)]) hx hb dX6_ask_63 hl (by decide) rfl (fun ls hl => ?_)
          obtain ⟨e21, hv, h⟩ := zb h
          have hJ20 : ∀ (e21_ : Int32), e21_ = e21 → zW p l e (zR 8 179) s m ([.ref a_m, .int u1, .int u2] : List Value).toArray below meth c Q 11 A G [(a_m, .inr (6, [.ref a_m_state, .ref a_m_readPage, .int m_toldOnce, .ref a_m_tape, .int m_taped, .int m_fault, .int m_broken, .int m_brokenAt, .int m_spot, .int m_here, .int m_token, .int m_value, .ref a_m_cuts, .ref a_m_letters, .int m_silent, .int m_greatest, .int m_moves, .int m_holders, .ref a_m_seen, .int m_seenMany, .ref a_m_pointBy, .ref a_m_isKept, .ref a_m_lanes, .ref a_m_lengths, .ref a_m_sheetCells, .int m_torn])), (a_m_state, .inl (k 0, 156, .inl o3.2.1)), (a_m_seen, .inl (k 0, 12, .inl m_seen)), (a_m_pointBy, .inl (k 0, 651, .inl o3.2.2))] [(0, .ref a_m), (2, .int u2), (3, .int o3.1), (4, .int x5.1), (5, .int x5.2.1), (6, .int x5.2.2), (7, .int x11.1), (8, .int x11.2), (9, .int e21_)] 137 [] := by
            intro e21_ hz
            subst hz
            intro H locs ls hP hD hS hl
            refine lv_iload hx hb dX6_ask_137 (lv_at hl 8 rfl) ?_
            refine lv_iload hx hb dX6_ask_139 (lv_at hl 6 rfl) ?_
            refine lv_icmp_le (tgt := 149) hx hb dX6_ask_141 (by decide) (fun c29 => ?_) (fun c29 => ?_)
            · have h := zit c29 h
              refine lv_iload hx hb dX6_ask_149 (lv_at hl 6 rfl) ?_
              refine lv_istore (lv' := [(7, .int x11.1), (0, .ref a_m), (2, .int u2), (3, .int o3.1), (4, .int x5.1), (5, .int x5.2.1), (6, .int x5.2.2), (8, .int x11.2), (9, .int e21_)]) hx hb dX6_ask_151 hl (by decide) rfl (fun ls hl => ?_)
              refine lv_iinc (v := x11.2 + (1 : Int32)) (lv' := [(8, .int (x11.2 + (1 : Int32))), (7, .int x11.1), (0, .ref a_m), (2, .int u2), (3, .int o3.1), (4, .int x5.1), (5, .int x5.2.1), (6, .int x5.2.2), (9, .int e21_)]) hx hb dX6_ask_153 hl (k := 7) rfl rfl (by decide) rfl (fun ls hl => ?_)
              refine lv_goto (tgt := 52) hx hb dX6_ask_156 (by decide) ?_
              exact hC12 _ (zs h) H locs ls hP hD hS (lv_sub hl [2, 3, 4, 5, 6, 7, 1, 0] rfl)
            · have h := zif c29 h
              refine lv_iload hx hb dX6_ask_144 (lv_at hl 8 rfl) ?_
              refine lv_goto (tgt := 151) hx hb dX6_ask_146 (by decide) ?_
              refine lv_istore (lv' := [(7, .int e21_), (0, .ref a_m), (2, .int u2), (3, .int o3.1), (4, .int x5.1), (5, .int x5.2.1), (6, .int x5.2.2), (8, .int x11.2), (9, .int e21_)]) hx hb dX6_ask_151 hl (by decide) rfl (fun ls hl => ?_)
              refine lv_iinc (v := x11.2 + (1 : Int32)) (lv' := [(8, .int (x11.2 + (1 : Int32))), (7, .int e21_), (0, .ref a_m), (2, .int u2), (3, .int o3.1), (4, .int x5.1), (5, .int x5.2.1), (6, .int x5.2.2), (9, .int e21_)]) hx hb dX6_ask_153 hl (k := 7) rfl rfl (by decide) rfl (fun ls hl => ?_)
              refine lv_goto (tgt := 52) hx hb dX6_ask_156 (by decide) ?_
              exact hC12 _ (zs h) H locs ls hP hD hS (lv_sub hl [2, 3, 4, 5, 6, 7, 1, 0] rfl)
          refine z_lpW (Wh := fun (x17 : Int32 × Int32) => zW p l e (zR 8 179) s m ([.ref a_m, .int u1, .int u2] : List Value).toArray below meth c Q 11 A G [(a_m, .inr (6, [.ref a_m_state, .ref a_m_readPage, .int m_toldOnce, .ref a_m_tape, .int m_taped, .int m_fault, .int m_broken, .int m_brokenAt, .int m_spot, .int m_here, .int m_token, .int m_value, .ref a_m_cuts, .ref a_m_letters, .int m_silent, .int m_greatest, .int m_moves, .int m_holders, .ref a_m_seen, .int m_seenMany, .ref a_m_pointBy, .ref a_m_isKept, .ref a_m_lanes, .ref a_m_lengths, .ref a_m_sheetCells, .int m_torn])), (a_m_state, .inl (k 0, 156, .inl o3.2.1)), (a_m_seen, .inl (k 0, 12, .inl m_seen)), (a_m_pointBy, .inl (k 0, 651, .inl o3.2.2))] [(0, .ref a_m), (2, .int u2), (3, .int o3.1), (4, .int x5.1), (5, .int x5.2.1), (6, .int x5.2.2), (7, .int x11.1), (8, .int x11.2), (9, .int x17.1), (10, .int x17.2)] 65 []) ?_ 1000 _ hv H locs ls hP hD hS (lv_sub hl [2, 3, 4, 5, 6, 7, 8, 9, 1, 0] rfl)
          clear h
          intro x17 o h hC18 hX19 H locs ls hP hD hS hl
          unfold p_X6_ask_b65 at h
          refine lv_iload hx hb dX6_ask_65 (lv_at hl 9 rfl) ?_
          refine lv_bipush (v := 20) hx hb dX6_ask_67 (by decide) ?_
          refine lv_icmp_gt (tgt := 137) hx hb dX6_ask_69 (by decide) (fun c28 => ?_) (fun c28 => ?_)
          · have h := zit c28 h
            exact hJ20 _ (hX19 _ (zs h)) H locs ls hP hD hS (lv_sub hl [0, 1, 2, 3, 4, 5, 6, 7, 8] rfl)
          · have h := zif c28 h
            refine lv_iload_n hx hb dX6_ask_72 rfl (lv_at hl 2 rfl) ?_
            refine lv_iload hx hb dX6_ask_73 (lv_at hl 7 rfl) ?_
            refine lv_ishr hx hb dX6_ask_75 ?_
            refine lv_iconst (v := 1) hx hb dX6_ask_76 (by decide) ?_
            refine lv_iand hx hb dX6_ask_77 ?_
            refine lv_iconst (v := 1) hx hb dX6_ask_78 (by decide) ?_
            refine lv_icmp_ne (tgt := 137) hx hb dX6_ask_79 (by decide) (fun c27 => ?_) (fun c27 => ?_)
            · have h := zif c27 h
              exact hJ20 _ (hX19 _ (zs h)) H locs ls hP hD hS (lv_sub hl [0, 1, 2, 3, 4, 5, 6, 7, 8] rfl)
            · have h := zit c27 h
              refine lv_iload hx hb dX6_ask_82 (lv_at hl 8 rfl) ?_
              refine lv_iload_n hx hb dX6_ask_84 rfl (lv_at hl 2 rfl) ?_
              refine lv_iload hx hb dX6_ask_85 (lv_at hl 9 rfl) ?_
              refine lv_ishr hx hb dX6_ask_87 ?_
              refine lv_iconst (v := 1) hx hb dX6_ask_88 (by decide) ?_
              refine lv_iand hx hb dX6_ask_89 ?_
              refine lv_iconst (v := 1) hx hb dX6_ask_90 (by decide) ?_
              refine lv_icmp_ne (tgt := 127) hx hb dX6_ask_91 (by decide) (fun c26 => ?_) (fun c26 => ?_)
              · have h := zif c26 h
                refine lv_iconst (v := 0) hx hb dX6_ask_127 (by decide) ?_
                refine lv_iadd hx hb dX6_ask_128 ?_
                refine lv_istore (lv' := [(9, .int (x17.1 + (0 : Int32))), (0, .ref a_m), (2, .int u2), (3, .int o3.1), (4, .int x5.1), (5, .int x5.2.1), (6, .int x5.2.2), (7, .int x11.1), (8, .int x11.2), (10, .int x17.2)]) hx hb dX6_ask_129 hl (by decide) rfl (fun ls hl => ?_)
                refine lv_iinc (v := x17.2 + (1 : Int32)) (lv' := [(10, .int (x17.2 + (1 : Int32))), (9, .int (x17.1 + (0 : Int32))), (0, .ref a_m), (2, .int u2), (3, .int o3.1), (4, .int x5.1), (5, .int x5.2.1), (6, .int x5.2.2), (7, .int x11.1), (8, .int x11.2)]) hx hb dX6_ask_131 hl (k := 9) rfl rfl (by decide) rfl (fun ls hl => ?_)
                refine lv_goto (tgt := 65) hx hb dX6_ask_134 (by decide) ?_
                exact hC18 _ (zs h) H locs ls hP hD hS (lv_sub hl [2, 3, 4, 5, 6, 7, 8, 9, 1, 0] rfl)
              · have h := zit c26 h
                refine lv_aload_n hx hb dX6_ask_94 rfl (lv_at hl 0 rfl) ?_
                refine va_get (D := G) (ci := 6) (v := .ref a_m_pointBy) (C := RX6) (T := TX6) (N := 26) hx hb hts iw_X6_ask_X6 hown hK hP 0 rfl rfl 20 (by decide) (hts (.fieldLink RX6 32 "SpireLeanModel" "pointBy" "[I") (List.mem_of_getElem? (i := 1) rfl)) (fun _ h9 => h9) rfl dX6_ask_95 ?_
                refine lv_bipush (v := 31) hx hb dX6_ask_98 (by decide) ?_
                refine lv_iload hx hb dX6_ask_100 (lv_at hl 7 rfl) ?_
                refine lv_imul hx hb dX6_ask_102 ?_
                refine lv_iload hx hb dX6_ask_103 (lv_at hl 5 rfl) ?_
                refine lv_iadd hx hb dX6_ask_105 ?_
                obtain ⟨v23, hv, h⟩ := zb h
                refine z_iald hx hb hK hP 3 0 rfl rfl hv dX6_ask_106 ?_
                refine lv_aload_n hx hb dX6_ask_107 rfl (lv_at hl 0 rfl) ?_
                refine va_get (D := G) (ci := 6) (v := .ref a_m_pointBy) (C := RX6) (T := TX6) (N := 26) hx hb hts iw_X6_ask_X6 hown hK hP 0 rfl rfl 20 (by decide) (hts (.fieldLink RX6 32 "SpireLeanModel" "pointBy" "[I") (List.mem_of_getElem? (i := 1) rfl)) (fun _ h9 => h9) rfl dX6_ask_108 ?_
                refine lv_bipush (v := 31) hx hb dX6_ask_111 (by decide) ?_
                refine lv_iload hx hb dX6_ask_113 (lv_at hl 9 rfl) ?_
                refine lv_imul hx hb dX6_ask_115 ?_
                refine lv_iload hx hb dX6_ask_116 (lv_at hl 5 rfl) ?_
                refine lv_iadd hx hb dX6_ask_118 ?_
                obtain ⟨v24, hv, h⟩ := zb h
                refine z_iald hx hb hK hP 3 0 rfl rfl hv dX6_ask_119 ?_
                refine lv_icmp_ne (tgt := 127) hx hb dX6_ask_120 (by decide) (fun c25 => ?_) (fun c25 => ?_)
                · have h := zif c25 h
                  refine lv_iconst (v := 0) hx hb dX6_ask_127 (by decide) ?_
                  refine lv_iadd hx hb dX6_ask_128 ?_
                  refine lv_istore (lv' := [(9, .int (x17.1 + (0 : Int32))), (0, .ref a_m), (2, .int u2), (3, .int o3.1), (4, .int x5.1), (5, .int x5.2.1), (6, .int x5.2.2), (7, .int x11.1), (8, .int x11.2), (10, .int x17.2)]) hx hb dX6_ask_129 hl (by decide) rfl (fun ls hl => ?_)
                  refine lv_iinc (v := x17.2 + (1 : Int32)) (lv' := [(10, .int (x17.2 + (1 : Int32))), (9, .int (x17.1 + (0 : Int32))), (0, .ref a_m), (2, .int u2), (3, .int o3.1), (4, .int x5.1), (5, .int x5.2.1), (6, .int x5.2.2), (7, .int x11.1), (8, .int x11.2)]) hx hb dX6_ask_131 hl (k := 9) rfl rfl (by decide) rfl (fun ls hl => ?_)
                  refine lv_goto (tgt := 65) hx hb dX6_ask_134 (by decide) ?_
                  exact hC18 _ (zs h) H locs ls hP hD hS (lv_sub hl [2, 3, 4, 5, 6, 7, 8, 9, 1, 0] rfl)
                · have h := zit c25 h
                  refine lv_iconst (v := 1) hx hb dX6_ask_123 (by decide) ?_
                  refine lv_goto (tgt := 128) hx hb dX6_ask_124 (by decide) ?_
                  refine lv_iadd hx hb dX6_ask_128 ?_
                  refine lv_istore (lv' := [(9, .int (x17.1 + (1 : Int32))), (0, .ref a_m), (2, .int u2), (3, .int o3.1), (4, .int x5.1), (5, .int x5.2.1), (6, .int x5.2.2), (7, .int x11.1), (8, .int x11.2), (10, .int x17.2)]) hx hb dX6_ask_129 hl (by decide) rfl (fun ls hl => ?_)
                  refine lv_iinc (v := x17.2 + (1 : Int32)) (lv' := [(10, .int (x17.2 + (1 : Int32))), (9, .int (x17.1 + (1 : Int32))), (0, .ref a_m), (2, .int u2), (3, .int o3.1), (4, .int x5.1), (5, .int x5.2.1), (6, .int x5.2.2), (7, .int x11.1), (8, .int x11.2)]) hx hb dX6_ask_131 hl (k := 9) rfl rfl (by decide) rfl (fun ls hl => ?_)
                  refine lv_goto (tgt := 65) hx hb dX6_ask_134 (by decide) ?_
                  exact hC18 _ (zs h) H locs ls hP hD hS (lv_sub hl [2, 3, 4, 5, 6, 7, 8, 9, 1, 0] rfl)
    · have h := zit c39 h
      refine lv_iconst (v := (-1)) hx hb dX6_ask_18 (by decide) ?_
      have hr := (zs h)
      subst hr
      exact hret H locs ls 19 hP hS dX6_ask_19
theorem iw_X6_drift_X6 : ∀ w ∈ wsX60, w ∈ wsX6_drift := fun _ h => List.mem_cons_of_mem _ (List.mem_append_right _ h)
set_option maxHeartbeats 4000000 in
set_option maxRecDepth 100000 in
theorem c_X6_drift (l : Launch) (G : va_G) (k : Nat → ClassId) (tL tM : Nat) (sK sV : Nat → Nat) (a_m : Nat) (a_m_state : Nat) (a_m_readPage : Nat) (a_m_tape : Nat) (a_m_cuts : Nat) (a_m_letters : Nat) (a_m_seen : Nat) (a_m_pointBy : Nat) (a_m_isKept : Nat) (a_m_lanes : Nat) (a_m_lengths : Nat) (a_m_sheetCells : Nat) (sz : Nat) (m_toldOnce : Int32) (m_taped : Int32) (m_fault : Int32) (m_broken : Int32) (m_brokenAt : Int32) (m_spot : Int32) (m_here : Int32) (m_token : Int32) (m_value : Int32) (m_silent : Int32) (m_greatest : Int32) (m_moves : Int32) (m_holders : Int32) (m_seenMany : Int32) (m_torn : Int32) (m_state : Nat → Int32) (u1 : Int32) (u2 : Int32) (u3 : Int32) (out : Int32 × (Nat → Int32)) (h : p_X6_drift u1 u2 u3 m_silent m_state = some out) : zMi l yX6_drift wsX6_drift 6 131 G k tL tM sK sV [.ref a_m, .int u1, .int u2, .int u3] [(a_m, .inr (6, [.ref a_m_state, .ref a_m_readPage, .int m_toldOnce, .ref a_m_tape, .int m_taped, .int m_fault, .int m_broken, .int m_brokenAt, .int m_spot, .int m_here, .int m_token, .int m_value, .ref a_m_cuts, .ref a_m_letters, .int m_silent, .int m_greatest, .int m_moves, .int m_holders, .ref a_m_seen, .int m_seenMany, .ref a_m_pointBy, .ref a_m_isKept, .ref a_m_lanes, .ref a_m_lengths, .ref a_m_sheetCells, .int m_torn])), (a_m_state, .inl (k 0, 156, .inl m_state))] [(a_m, .inr (6, [.ref a_m_state, .ref a_m_readPage, .int m_toldOnce, .ref a_m_tape, .int m_taped, .int m_fault, .int m_broken, .int m_brokenAt, .int m_spot, .int m_here, .int m_token, .int m_value, .ref a_m_cuts, .ref a_m_letters, .int m_silent, .int m_greatest, .int m_moves, .int m_holders, .ref a_m_seen, .int m_seenMany, .ref a_m_pointBy, .ref a_m_isKept, .ref a_m_lanes, .ref a_m_lengths, .ref a_m_sheetCells, .int m_torn])), (a_m_state, .inl (k 0, 156, .inl out.2))] out.1 sz := by
  refine z_meti (cc := cX6_drift) (maxL := 8) (by decide) rfl (Nat.le_of_ble_eq_true rfl) ?_
  intro p e s m below meth c A Q H locs ls hx hb hml hts hown hA hK hE hret hP hD hS hl
  have hown : s.vm.findClass RX6 = some m.cls := hown
  have hl : lv_has ls 8 [(0, .ref a_m), (1, .int u1), (2, .int u2), (3, .int u3)] := hl
  unfold p_X6_drift at h
  refine lv_iload_n hx hb dX6_drift_0 rfl (lv_at hl 2 rfl) ?_
  refine lv_i2l (v := u2.toInt64) hx hb dX6_drift_1 rfl ?_
  refine lv_lconst (v := 1) hx hb dX6_drift_2 (by decide) ?_
  refine lv_ldc2 hx hb hown (hts (.constantLong RX6 163 (60)) (List.mem_of_getElem? (i := 1) rfl)) dX6_drift_3 ?_
  obtain ⟨o1, hv, h⟩ := zb h
  refine z_goi (w2 := [(a_m, .inr (6, [.ref a_m_state, .ref a_m_readPage, .int m_toldOnce, .ref a_m_tape, .int m_taped, .int m_fault, .int m_broken, .int m_brokenAt, .int m_spot, .int m_here, .int m_token, .int m_value, .ref a_m_cuts, .ref a_m_letters, .int m_silent, .int m_greatest, .int m_moves, .int m_holders, .ref a_m_seen, .int m_seenMany, .ref a_m_pointBy, .ref a_m_isKept, .ref a_m_lanes, .ref a_m_lengths, .ref a_m_sheetCells, .int m_torn])), (a_m_state, .inl (k 0, 156, .inl m_state))]) [] (va_runS (As := [.long u2.toInt64, .long (1 : Int64), .long (60 : Int64)]) (rest := []) ⟨hx, hb, hml, hown, hts⟩ (c_X6_in l G k tL tM sK sV H.size u2.toInt64 (1 : Int64) (60 : Int64) o1 hv) (va_cwS 3 hts gX6_drift_X6_in rfl rfl rfl (by decide +kernel) ⟨Nat.le_of_ble_eq_true rfl, Nat.le_of_ble_eq_true rfl⟩) (z_preS (wc := []) [] hK hE hA hP hD hS (by decide) rfl) rfl rfl hl.1 rfl (lv_room (Nat.le_of_ble_eq_true rfl)) dX6_drift_6 ⟨Nat.le_refl _, Nat.le_refl _⟩) hA hP hD hS rfl rfl rfl rfl (fun H locs hP hD hS => ?_)
  refine lv_if_eq (tgt := 22) hx hb dX6_drift_9 (by decide) (fun c24 => ?_) (fun c24 => ?_)
  · have h := zit c24 h
    refine lv_iconst (v := (-1)) hx hb dX6_drift_22 (by decide) ?_
    have hr := (zs h)
    subst hr
    exact hret H locs ls 23 hP hS dX6_drift_23
  · have h := zif c24 h
    refine lv_iload_n hx hb dX6_drift_12 rfl (lv_at hl 3 rfl) ?_
    refine lv_i2l (v := u3.toInt64) hx hb dX6_drift_13 rfl ?_
    refine lv_lconst (v := 0) hx hb dX6_drift_14 (by decide) ?_
    refine lv_lconst (v := 1) hx hb dX6_drift_15 (by decide) ?_
    obtain ⟨o2, hv, h⟩ := zb h
    refine z_goi (w2 := [(a_m, .inr (6, [.ref a_m_state, .ref a_m_readPage, .int m_toldOnce, .ref a_m_tape, .int m_taped, .int m_fault, .int m_broken, .int m_brokenAt, .int m_spot, .int m_here, .int m_token, .int m_value, .ref a_m_cuts, .ref a_m_letters, .int m_silent, .int m_greatest, .int m_moves, .int m_holders, .ref a_m_seen, .int m_seenMany, .ref a_m_pointBy, .ref a_m_isKept, .ref a_m_lanes, .ref a_m_lengths, .ref a_m_sheetCells, .int m_torn])), (a_m_state, .inl (k 0, 156, .inl m_state))]) [] (va_runS (As := [.long u3.toInt64, .long (0 : Int64), .long (1 : Int64)]) (rest := []) ⟨hx, hb, hml, hown, hts⟩ (c_X6_in l G k tL tM sK sV H.size u3.toInt64 (0 : Int64) (1 : Int64) o2 hv) (va_cwS 3 hts gX6_drift_X6_in rfl rfl rfl (by decide +kernel) ⟨Nat.le_of_ble_eq_true rfl, Nat.le_of_ble_eq_true rfl⟩) (z_preS (wc := []) [] hK hE hA hP hD hS (by decide) rfl) rfl rfl hl.1 rfl (lv_room (Nat.le_of_ble_eq_true rfl)) dX6_drift_16 ⟨Nat.le_refl _, Nat.le_refl _⟩) hA hP hD hS rfl rfl rfl rfl (fun H locs hP hD hS => ?_)
    refine lv_if_ne (tgt := 24) hx hb dX6_drift_19 (by decide) (fun c23 => ?_) (fun c23 => ?_)
    · have h := zif c23 h
      refine lv_aload_n hx hb dX6_drift_24 rfl (lv_at hl 0 rfl) ?_
      refine va_get (D := G) (ci := 6) (v := .ref a_m_state) (C := RX6) (T := TX6) (N := 26) hx hb hts iw_X6_drift_X6 hown hK hP 0 rfl rfl 0 (by decide) (hts (.fieldLink RX6 7 "SpireLeanModel" "state" "[I") (List.mem_of_getElem? (i := 2) rfl)) (fun _ h9 => h9) rfl dX6_drift_25 ?_
      refine lv_bipush (v := 20) hx hb dX6_drift_28 (by decide) ?_
      obtain ⟨v3, hv, h⟩ := zb h
      refine z_iald hx hb hK hP 1 0 rfl rfl hv dX6_drift_30 ?_
      refine lv_if_ne (tgt := 37) hx hb dX6_drift_31 (by decide) (fun c22 => ?_) (fun c22 => ?_)
      · have h := zif c22 h
        refine lv_aload_n hx hb dX6_drift_37 rfl (lv_at hl 0 rfl) ?_
        refine lv_iconst (v := 0) hx hb dX6_drift_38 (by decide) ?_
        refine lv_bipush (v := 104) hx hb dX6_drift_39 (by decide) ?_
        obtain ⟨o4, hv, h⟩ := zb h
        refine z_gov (w2 := [(a_m, .inr (6, [.ref a_m_state, .ref a_m_readPage, .int m_toldOnce, .ref a_m_tape, .int m_taped, .int m_fault, .int m_broken, .int m_brokenAt, .int m_spot, .int m_here, .int m_token, .int m_value, .ref a_m_cuts, .ref a_m_letters, .int m_silent, .int m_greatest, .int m_moves, .int m_holders, .ref a_m_seen, .int m_seenMany, .ref a_m_pointBy, .ref a_m_isKept, .ref a_m_lanes, .ref a_m_lengths, .ref a_m_sheetCells, .int m_torn])), (a_m_state, .inl (k 0, 156, .inl o4))]) [0, 1] (va_runV (As := [.int (0 : Int32), .int (104 : Int32)]) (rest := []) ⟨hx, hb, hml, hown, hts⟩ (c_X6_copies l G k tL tM sK sV a_m a_m_state a_m_readPage a_m_tape a_m_cuts a_m_letters a_m_seen a_m_pointBy a_m_isKept a_m_lanes a_m_lengths a_m_sheetCells H.size m_toldOnce m_taped m_fault m_broken m_brokenAt m_spot m_here m_token m_value m_silent m_greatest m_moves m_holders m_seenMany m_torn m_state (0 : Int32) (104 : Int32) o4 hv) (cwV 2 hts gX6_drift_X6_copies rfl rfl rfl (by decide +kernel) ⟨Nat.le_of_ble_eq_true rfl, Nat.le_of_ble_eq_true rfl⟩) (z_preV (wc := [(a_m, .inr (6, [.ref a_m_state, .ref a_m_readPage, .int m_toldOnce, .ref a_m_tape, .int m_taped, .int m_fault, .int m_broken, .int m_brokenAt, .int m_spot, .int m_here, .int m_token, .int m_value, .ref a_m_cuts, .ref a_m_letters, .int m_silent, .int m_greatest, .int m_moves, .int m_holders, .ref a_m_seen, .int m_seenMany, .ref a_m_pointBy, .ref a_m_isKept, .ref a_m_lanes, .ref a_m_lengths, .ref a_m_sheetCells, .int m_torn])), (a_m_state, .inl (k 0, 156, .inl m_state))]) [0, 1] 0 6 hK hE hA hP hD hS (by decide) rfl rfl rfl) rfl rfl hl.1 rfl (lv_room (Nat.le_of_ble_eq_true rfl)) dX6_drift_41 ⟨Nat.le_refl _, Nat.le_refl _⟩) hA hP hD hS rfl rfl rfl rfl (fun H locs hP hD hS => ?_)
        refine lv_iload_n hx hb dX6_drift_44 rfl (lv_at hl 1 rfl) ?_
        refine lv_istore (lv' := [(4, .int u1), (0, .ref a_m), (1, .int u1), (2, .int u2), (3, .int u3)]) hx hb dX6_drift_45 hl (by decide) rfl (fun ls hl => ?_)
        refine lv_aload_n hx hb dX6_drift_47 rfl (lv_at hl 1 rfl) ?_
        refine lv_bipush (v := 104) hx hb dX6_drift_48 (by decide) ?_
        obtain ⟨o5, hv, h⟩ := zb h
        refine z_goi (w2 := [(a_m, .inr (6, [.ref a_m_state, .ref a_m_readPage, .int m_toldOnce, .ref a_m_tape, .int m_taped, .int m_fault, .int m_broken, .int m_brokenAt, .int m_spot, .int m_here, .int m_token, .int m_value, .ref a_m_cuts, .ref a_m_letters, .int m_silent, .int m_greatest, .int m_moves, .int m_holders, .ref a_m_seen, .int m_seenMany, .ref a_m_pointBy, .ref a_m_isKept, .ref a_m_lanes, .ref a_m_lengths, .ref a_m_sheetCells, .int m_torn])), (a_m_state, .inl (k 0, 156, .inl o4))]) [0, 1] (va_runV (As := [.int (104 : Int32)]) (rest := []) ⟨hx, hb, hml, hown, hts⟩ (c_X6_leanOn l G k tL tM sK sV a_m a_m_state a_m_readPage a_m_tape a_m_cuts a_m_letters a_m_seen a_m_pointBy a_m_isKept a_m_lanes a_m_lengths a_m_sheetCells H.size m_toldOnce m_taped m_fault m_broken m_brokenAt m_spot m_here m_token m_value m_silent m_greatest m_moves m_holders m_seenMany m_torn o4 (104 : Int32) o5 hv) (cwV 1 hts gX6_drift_X6_leanOn rfl rfl rfl (by decide +kernel) ⟨Nat.le_of_ble_eq_true rfl, Nat.le_of_ble_eq_true rfl⟩) (z_preV (wc := [(a_m, .inr (6, [.ref a_m_state, .ref a_m_readPage, .int m_toldOnce, .ref a_m_tape, .int m_taped, .int m_fault, .int m_broken, .int m_brokenAt, .int m_spot, .int m_here, .int m_token, .int m_value, .ref a_m_cuts, .ref a_m_letters, .int m_silent, .int m_greatest, .int m_moves, .int m_holders, .ref a_m_seen, .int m_seenMany, .ref a_m_pointBy, .ref a_m_isKept, .ref a_m_lanes, .ref a_m_lengths, .ref a_m_sheetCells, .int m_torn])), (a_m_state, .inl (k 0, 156, .inl o4))]) [0, 1] 0 6 hK hE hA hP hD hS (by decide) rfl rfl rfl) rfl rfl hl.1 rfl (lv_room (Nat.le_of_ble_eq_true rfl)) dX6_drift_50 ⟨Nat.le_refl _, Nat.le_refl _⟩) hA hP hD hS rfl rfl rfl rfl (fun H locs hP hD hS => ?_)
        refine lv_istore (lv' := [(5, .int o5), (4, .int u1), (0, .ref a_m), (1, .int u1), (2, .int u2), (3, .int u3)]) hx hb dX6_drift_53 hl (by decide) rfl (fun ls hl => ?_)
        refine lv_iconst (v := 0) hx hb dX6_drift_55 (by decide) ?_
        refine lv_istore (lv' := [(6, .int (0 : Int32)), (5, .int o5), (4, .int u1), (0, .ref a_m), (1, .int u1), (2, .int u2), (3, .int u3)]) hx hb dX6_drift_56 hl (by decide) rfl (fun ls hl => ?_)
        obtain ⟨e10, hv, h⟩ := zb h
        have hJ9 : ∀ (e10_ : Int32 × (Nat → Int32)), e10_ = e10 → zW p l e (zR 6 131) s m ([.ref a_m, .int u1, .int u2, .int u3] : List Value).toArray below meth c Q 8 A G [(a_m, .inr (6, [.ref a_m_state, .ref a_m_readPage, .int m_toldOnce, .ref a_m_tape, .int m_taped, .int m_fault, .int m_broken, .int m_brokenAt, .int m_spot, .int m_here, .int m_token, .int m_value, .ref a_m_cuts, .ref a_m_letters, .int m_silent, .int m_greatest, .int m_moves, .int m_holders, .ref a_m_seen, .int m_seenMany, .ref a_m_pointBy, .ref a_m_isKept, .ref a_m_lanes, .ref a_m_lengths, .ref a_m_sheetCells, .int m_torn])), (a_m_state, .inl (k 0, 156, .inl e10_.2))] [(0, .ref a_m), (3, .int u3), (5, .int e10_.1)] 148 [] := by
          intro e10_ hz
          subst hz
          intro H locs ls hP hD hS hl
          refine lv_iload_n hx hb dX6_drift_148 rfl (lv_at hl 1 rfl) ?_
          refine lv_if_ne (tgt := 161) hx hb dX6_drift_149 (by decide) (fun c21 => ?_) (fun c21 => ?_)
          · have h := zif c21 h
            refine lv_iload hx hb dX6_drift_161 (lv_at hl 2 rfl) ?_
            have hr := (zs h)
            subst hr
            exact hret H locs ls 163 hP hS dX6_drift_163
          · have h := zit c21 h
            refine lv_aload_n hx hb dX6_drift_152 rfl (lv_at hl 0 rfl) ?_
            refine lv_bipush (v := 104) hx hb dX6_drift_153 (by decide) ?_
            obtain ⟨o20, hv, h⟩ := zb h
            refine z_goi (w2 := [(a_m, .inr (6, [.ref a_m_state, .ref a_m_readPage, .int m_toldOnce, .ref a_m_tape, .int m_taped, .int m_fault, .int m_broken, .int m_brokenAt, .int m_spot, .int m_here, .int m_token, .int m_value, .ref a_m_cuts, .ref a_m_letters, .int m_silent, .int m_greatest, .int m_moves, .int m_holders, .ref a_m_seen, .int m_seenMany, .ref a_m_pointBy, .ref a_m_isKept, .ref a_m_lanes, .ref a_m_lengths, .ref a_m_sheetCells, .int m_torn])), (a_m_state, .inl (k 0, 156, .inl e10_.2))]) [0, 1] (va_runV (As := [.int (104 : Int32)]) (rest := []) ⟨hx, hb, hml, hown, hts⟩ (c_X6_pointOn l G k tL tM sK sV a_m a_m_state a_m_readPage a_m_tape a_m_cuts a_m_letters a_m_seen a_m_pointBy a_m_isKept a_m_lanes a_m_lengths a_m_sheetCells H.size m_toldOnce m_taped m_fault m_broken m_brokenAt m_spot m_here m_token m_value m_silent m_greatest m_moves m_holders m_seenMany m_torn e10_.2 (104 : Int32) o20 hv) (cwV 1 hts gX6_drift_X6_pointOn rfl rfl rfl (by decide +kernel) ⟨Nat.le_of_ble_eq_true rfl, Nat.le_of_ble_eq_true rfl⟩) (z_preV (wc := [(a_m, .inr (6, [.ref a_m_state, .ref a_m_readPage, .int m_toldOnce, .ref a_m_tape, .int m_taped, .int m_fault, .int m_broken, .int m_brokenAt, .int m_spot, .int m_here, .int m_token, .int m_value, .ref a_m_cuts, .ref a_m_letters, .int m_silent, .int m_greatest, .int m_moves, .int m_holders, .ref a_m_seen, .int m_seenMany, .ref a_m_pointBy, .ref a_m_isKept, .ref a_m_lanes, .ref a_m_lengths, .ref a_m_sheetCells, .int m_torn])), (a_m_state, .inl (k 0, 156, .inl e10_.2))]) [0, 1] 0 6 hK hE hA hP hD hS (by decide) rfl rfl rfl) rfl rfl hl.1 rfl (lv_room (Nat.le_of_ble_eq_true rfl)) dX6_drift_155 ⟨Nat.le_refl _, Nat.le_refl _⟩) hA hP hD hS rfl rfl rfl rfl (fun H locs hP hD hS => ?_)
            refine lv_goto (tgt := 163) hx hb dX6_drift_158 (by decide) ?_
            have hr := (zs h)
            subst hr
            exact hret H locs ls 163 hP hS dX6_drift_163
        refine z_lpW (Wh := fun (x6 : Int32 × Int32 × Int32 × (Nat → Int32)) => zW p l e (zR 6 131) s m ([.ref a_m, .int u1, .int u2, .int u3] : List Value).toArray below meth c Q 8 A G [(a_m, .inr (6, [.ref a_m_state, .ref a_m_readPage, .int m_toldOnce, .ref a_m_tape, .int m_taped, .int m_fault, .int m_broken, .int m_brokenAt, .int m_spot, .int m_here, .int m_token, .int m_value, .ref a_m_cuts, .ref a_m_letters, .int m_silent, .int m_greatest, .int m_moves, .int m_holders, .ref a_m_seen, .int m_seenMany, .ref a_m_pointBy, .ref a_m_isKept, .ref a_m_lanes, .ref a_m_lengths, .ref a_m_sheetCells, .int m_torn])), (a_m_state, .inl (k 0, 156, .inl x6.2.2.2))] [(0, .ref a_m), (2, .int u2), (3, .int u3), (4, .int x6.1), (5, .int x6.2.1), (6, .int x6.2.2.1)] 58 []) ?_ 1000 _ hv H locs ls hP hD hS (lv_sub hl [3, 5, 6, 2, 1, 0] rfl)
        clear h
        intro x6 o h hC7 hX8 H locs ls hP hD hS hl
        unfold p_X6_drift_b58 at h
        refine lv_iload hx hb dX6_drift_58 (lv_at hl 5 rfl) ?_
        refine lv_iload_n hx hb dX6_drift_60 rfl (lv_at hl 1 rfl) ?_
        refine lv_icmp_ge (tgt := 148) hx hb dX6_drift_61 (by decide) (fun c19 => ?_) (fun c19 => ?_)
        · have h := zit c19 h
          exact hJ9 _ (hX8 _ (zs h)) H locs ls hP hD hS (lv_sub hl [0, 2, 4] rfl)
        · have h := zif c19 h
          refine lv_iload hx hb dX6_drift_64 (lv_at hl 3 rfl) ?_
          refine lv_ldc hx hb hown (hts (.constant RX6 234 (1103515245)) (List.mem_of_getElem? (i := 3) rfl)) dX6_drift_66 ?_
          refine lv_imul hx hb dX6_drift_68 ?_
          refine lv_sipush (v := 12345) hx hb dX6_drift_69 (by decide) ?_
          refine lv_iadd hx hb dX6_drift_72 ?_
          refine lv_istore (lv' := [(4, .int ((x6.1 * (1103515245 : Int32)) + (12345 : Int32))), (0, .ref a_m), (2, .int u2), (3, .int u3), (5, .int x6.2.1), (6, .int x6.2.2.1)]) hx hb dX6_drift_73 hl (by decide) rfl (fun ls hl => ?_)
          refine lv_iload hx hb dX6_drift_75 (lv_at hl 0 rfl) ?_
          refine lv_bipush (v := 16) hx hb dX6_drift_77 (by decide) ?_
          refine lv_ishr hx hb dX6_drift_79 ?_
          refine lv_sipush (v := 32767) hx hb dX6_drift_80 (by decide) ?_
          refine lv_iand hx hb dX6_drift_83 ?_
          refine lv_istore (lv' := [(7, .int ((((x6.1 * (1103515245 : Int32)) + (12345 : Int32)) >>> ((16 : Int32) &&& 31)) &&& (32767 : Int32))), (4, .int ((x6.1 * (1103515245 : Int32)) + (12345 : Int32))), (0, .ref a_m), (2, .int u2), (3, .int u3), (5, .int x6.2.1), (6, .int x6.2.2.1)]) hx hb dX6_drift_84 hl (by decide) rfl (fun ls hl => ?_)
          refine lv_aload_n hx hb dX6_drift_86 rfl (lv_at hl 2 rfl) ?_
          refine va_get (D := G) (ci := 6) (v := .ref a_m_state) (C := RX6) (T := TX6) (N := 26) hx hb hts iw_X6_drift_X6 hown hK hP 0 rfl rfl 0 (by decide) (hts (.fieldLink RX6 7 "SpireLeanModel" "state" "[I") (List.mem_of_getElem? (i := 2) rfl)) (fun _ h9 => h9) rfl dX6_drift_87 ?_
          refine lv_bipush (v := 114) hx hb dX6_drift_90 (by decide) ?_
          refine lv_iload hx hb dX6_drift_92 (lv_at hl 0 rfl) ?_
          refine lv_aload_n hx hb dX6_drift_94 rfl (lv_at hl 2 rfl) ?_
          refine va_get (D := G) (ci := 6) (v := .ref a_m_state) (C := RX6) (T := TX6) (N := 26) hx hb hts iw_X6_drift_X6 hown hK hP 0 rfl rfl 0 (by decide) (hts (.fieldLink RX6 7 "SpireLeanModel" "state" "[I") (List.mem_of_getElem? (i := 2) rfl)) (fun _ h9 => h9) rfl dX6_drift_95 ?_
          refine lv_bipush (v := 20) hx hb dX6_drift_98 (by decide) ?_
          obtain ⟨v12, hv, h⟩ := zb h
          refine z_iald hx hb hK hP 1 0 rfl rfl hv dX6_drift_100 ?_
          obtain ⟨v13, hv, h⟩ := zb h
          obtain ⟨hne, hvv⟩ := z_remS hv
          refine lv_irem hx hb dX6_drift_101 hne ?_
          rw [hvv]
          refine lv_iadd hx hb dX6_drift_102 ?_
          refine lv_iload hx hb dX6_drift_103 (lv_at hl 0 rfl) ?_
          refine lv_bipush (v := 8) hx hb dX6_drift_105 (by decide) ?_
          refine lv_idiv hx hb dX6_drift_107 (by decide) ?_
          refine lv_bipush (v := 100) hx hb dX6_drift_108 (by decide) ?_
          refine lv_irem hx hb dX6_drift_110 (by decide) ?_
          obtain ⟨v14, hv, h⟩ := zb h
          refine z_iast hx hb hK hP hD hS 1 0 rfl rfl hv dX6_drift_111 (fun H locs hP hD hS => ?_)
          have hP : va_P G vwCl [(a_m, .inr (6, [.ref a_m_state, .ref a_m_readPage, .int m_toldOnce, .ref a_m_tape, .int m_taped, .int m_fault, .int m_broken, .int m_brokenAt, .int m_spot, .int m_here, .int m_token, .int m_value, .ref a_m_cuts, .ref a_m_letters, .int m_silent, .int m_greatest, .int m_moves, .int m_holders, .ref a_m_seen, .int m_seenMany, .ref a_m_pointBy, .ref a_m_isKept, .ref a_m_lanes, .ref a_m_lengths, .ref a_m_sheetCells, .int m_torn])), (a_m_state, .inl (k 0, 156, .inl v14))] H := hP
          have hD : va_D A [(a_m, .inr (6, [.ref a_m_state, .ref a_m_readPage, .int m_toldOnce, .ref a_m_tape, .int m_taped, .int m_fault, .int m_broken, .int m_brokenAt, .int m_spot, .int m_here, .int m_token, .int m_value, .ref a_m_cuts, .ref a_m_letters, .int m_silent, .int m_greatest, .int m_moves, .int m_holders, .ref a_m_seen, .int m_seenMany, .ref a_m_pointBy, .ref a_m_isKept, .ref a_m_lanes, .ref a_m_lengths, .ref a_m_sheetCells, .int m_torn])), (a_m_state, .inl (k 0, 156, .inl v14))] := hD
          refine lv_aload_n hx hb dX6_drift_112 rfl (lv_at hl 2 rfl) ?_
          refine lv_bipush (v := 104) hx hb dX6_drift_113 (by decide) ?_
          obtain ⟨o15, hv, h⟩ := zb h
          refine z_gov (w2 := [(a_m, .inr (6, [.ref a_m_state, .ref a_m_readPage, .int m_toldOnce, .ref a_m_tape, .int m_taped, .int m_fault, .int m_broken, .int m_brokenAt, .int m_spot, .int m_here, .int m_token, .int m_value, .ref a_m_cuts, .ref a_m_letters, .int m_silent, .int m_greatest, .int m_moves, .int m_holders, .ref a_m_seen, .int m_seenMany, .ref a_m_pointBy, .ref a_m_isKept, .ref a_m_lanes, .ref a_m_lengths, .ref a_m_sheetCells, .int m_torn])), (a_m_state, .inl (k 0, 156, .inl o15))]) [0, 1] (va_runV (As := [.int (104 : Int32)]) (rest := []) ⟨hx, hb, hml, hown, hts⟩ (c_X6_yearOn l G k tL tM sK sV a_m a_m_state a_m_readPage a_m_tape a_m_cuts a_m_letters a_m_seen a_m_pointBy a_m_isKept a_m_lanes a_m_lengths a_m_sheetCells H.size m_toldOnce m_taped m_fault m_broken m_brokenAt m_spot m_here m_token m_value m_silent m_greatest m_moves m_holders m_seenMany m_torn v14 (104 : Int32) o15 hv) (cwV 1 hts gX6_drift_X6_yearOn rfl rfl rfl (by decide +kernel) ⟨Nat.le_of_ble_eq_true rfl, Nat.le_of_ble_eq_true rfl⟩) (z_preV (wc := [(a_m, .inr (6, [.ref a_m_state, .ref a_m_readPage, .int m_toldOnce, .ref a_m_tape, .int m_taped, .int m_fault, .int m_broken, .int m_brokenAt, .int m_spot, .int m_here, .int m_token, .int m_value, .ref a_m_cuts, .ref a_m_letters, .int m_silent, .int m_greatest, .int m_moves, .int m_holders, .ref a_m_seen, .int m_seenMany, .ref a_m_pointBy, .ref a_m_isKept, .ref a_m_lanes, .ref a_m_lengths, .ref a_m_sheetCells, .int m_torn])), (a_m_state, .inl (k 0, 156, .inl v14))]) [0, 1] 0 6 hK hE hA hP hD hS (by decide) rfl rfl rfl) rfl rfl hl.1 rfl (lv_room (Nat.le_of_ble_eq_true rfl)) dX6_drift_115 ⟨Nat.le_refl _, Nat.le_refl _⟩) hA hP hD hS rfl rfl rfl rfl (fun H locs hP hD hS => ?_)
          refine lv_aload_n hx hb dX6_drift_118 rfl (lv_at hl 2 rfl) ?_
          refine lv_bipush (v := 104) hx hb dX6_drift_119 (by decide) ?_
          obtain ⟨o16, hv, h⟩ := zb h
          refine z_goi (w2 := [(a_m, .inr (6, [.ref a_m_state, .ref a_m_readPage, .int m_toldOnce, .ref a_m_tape, .int m_taped, .int m_fault, .int m_broken, .int m_brokenAt, .int m_spot, .int m_here, .int m_token, .int m_value, .ref a_m_cuts, .ref a_m_letters, .int m_silent, .int m_greatest, .int m_moves, .int m_holders, .ref a_m_seen, .int m_seenMany, .ref a_m_pointBy, .ref a_m_isKept, .ref a_m_lanes, .ref a_m_lengths, .ref a_m_sheetCells, .int m_torn])), (a_m_state, .inl (k 0, 156, .inl o15))]) [0, 1] (va_runV (As := [.int (104 : Int32)]) (rest := []) ⟨hx, hb, hml, hown, hts⟩ (c_X6_leanOn l G k tL tM sK sV a_m a_m_state a_m_readPage a_m_tape a_m_cuts a_m_letters a_m_seen a_m_pointBy a_m_isKept a_m_lanes a_m_lengths a_m_sheetCells H.size m_toldOnce m_taped m_fault m_broken m_brokenAt m_spot m_here m_token m_value m_silent m_greatest m_moves m_holders m_seenMany m_torn o15 (104 : Int32) o16 hv) (cwV 1 hts gX6_drift_X6_leanOn rfl rfl rfl (by decide +kernel) ⟨Nat.le_of_ble_eq_true rfl, Nat.le_of_ble_eq_true rfl⟩) (z_preV (wc := [(a_m, .inr (6, [.ref a_m_state, .ref a_m_readPage, .int m_toldOnce, .ref a_m_tape, .int m_taped, .int m_fault, .int m_broken, .int m_brokenAt, .int m_spot, .int m_here, .int m_token, .int m_value, .ref a_m_cuts, .ref a_m_letters, .int m_silent, .int m_greatest, .int m_moves, .int m_holders, .ref a_m_seen, .int m_seenMany, .ref a_m_pointBy, .ref a_m_isKept, .ref a_m_lanes, .ref a_m_lengths, .ref a_m_sheetCells, .int m_torn])), (a_m_state, .inl (k 0, 156, .inl o15))]) [0, 1] 0 6 hK hE hA hP hD hS (by decide) rfl rfl rfl) rfl rfl hl.1 rfl (lv_room (Nat.le_of_ble_eq_true rfl)) dX6_drift_121 ⟨Nat.le_refl _, Nat.le_refl _⟩) hA hP hD hS rfl rfl rfl rfl (fun H locs hP hD hS => ?_)
          refine lv_iload hx hb dX6_drift_124 (lv_at hl 5 rfl) ?_
          refine lv_icmp_le (tgt := 138) hx hb dX6_drift_126 (by decide) (fun c18 => ?_) (fun c18 => ?_)
          · have h := zit c18 h
            refine lv_iload hx hb dX6_drift_138 (lv_at hl 5 rfl) ?_
            refine lv_istore (lv' := [(5, .int x6.2.1), (7, .int ((((x6.1 * (1103515245 : Int32)) + (12345 : Int32)) >>> ((16 : Int32) &&& 31)) &&& (32767 : Int32))), (4, .int ((x6.1 * (1103515245 : Int32)) + (12345 : Int32))), (0, .ref a_m), (2, .int u2), (3, .int u3), (6, .int x6.2.2.1)]) hx hb dX6_drift_140 hl (by decide) rfl (fun ls hl => ?_)
            refine lv_iinc (v := x6.2.2.1 + (1 : Int32)) (lv' := [(6, .int (x6.2.2.1 + (1 : Int32))), (5, .int x6.2.1), (7, .int ((((x6.1 * (1103515245 : Int32)) + (12345 : Int32)) >>> ((16 : Int32) &&& 31)) &&& (32767 : Int32))), (4, .int ((x6.1 * (1103515245 : Int32)) + (12345 : Int32))), (0, .ref a_m), (2, .int u2), (3, .int u3)]) hx hb dX6_drift_142 hl (k := 6) rfl rfl (by decide) rfl (fun ls hl => ?_)
            refine lv_goto (tgt := 58) hx hb dX6_drift_145 (by decide) ?_
            exact hC7 _ (zs h) H locs ls hP hD hS (lv_sub hl [4, 5, 6, 3, 1, 0] rfl)
          · have h := zif c18 h
            refine lv_aload_n hx hb dX6_drift_129 rfl (lv_at hl 2 rfl) ?_
            refine lv_bipush (v := 104) hx hb dX6_drift_130 (by decide) ?_
            obtain ⟨o17, hv, h⟩ := zb h
            refine z_goi (w2 := [(a_m, .inr (6, [.ref a_m_state, .ref a_m_readPage, .int m_toldOnce, .ref a_m_tape, .int m_taped, .int m_fault, .int m_broken, .int m_brokenAt, .int m_spot, .int m_here, .int m_token, .int m_value, .ref a_m_cuts, .ref a_m_letters, .int m_silent, .int m_greatest, .int m_moves, .int m_holders, .ref a_m_seen, .int m_seenMany, .ref a_m_pointBy, .ref a_m_isKept, .ref a_m_lanes, .ref a_m_lengths, .ref a_m_sheetCells, .int m_torn])), (a_m_state, .inl (k 0, 156, .inl o15))]) [0, 1] (va_runV (As := [.int (104 : Int32)]) (rest := []) ⟨hx, hb, hml, hown, hts⟩ (c_X6_leanOn l G k tL tM sK sV a_m a_m_state a_m_readPage a_m_tape a_m_cuts a_m_letters a_m_seen a_m_pointBy a_m_isKept a_m_lanes a_m_lengths a_m_sheetCells H.size m_toldOnce m_taped m_fault m_broken m_brokenAt m_spot m_here m_token m_value m_silent m_greatest m_moves m_holders m_seenMany m_torn o15 (104 : Int32) o17 hv) (cwV 1 hts gX6_drift_X6_leanOn rfl rfl rfl (by decide +kernel) ⟨Nat.le_of_ble_eq_true rfl, Nat.le_of_ble_eq_true rfl⟩) (z_preV (wc := [(a_m, .inr (6, [.ref a_m_state, .ref a_m_readPage, .int m_toldOnce, .ref a_m_tape, .int m_taped, .int m_fault, .int m_broken, .int m_brokenAt, .int m_spot, .int m_here, .int m_token, .int m_value, .ref a_m_cuts, .ref a_m_letters, .int m_silent, .int m_greatest, .int m_moves, .int m_holders, .ref a_m_seen, .int m_seenMany, .ref a_m_pointBy, .ref a_m_isKept, .ref a_m_lanes, .ref a_m_lengths, .ref a_m_sheetCells, .int m_torn])), (a_m_state, .inl (k 0, 156, .inl o15))]) [0, 1] 0 6 hK hE hA hP hD hS (by decide) rfl rfl rfl) rfl rfl hl.1 rfl (lv_room (Nat.le_of_ble_eq_true rfl)) dX6_drift_132 ⟨Nat.le_refl _, Nat.le_refl _⟩) hA hP hD hS rfl rfl rfl rfl (fun H locs hP hD hS => ?_)
            refine lv_goto (tgt := 140) hx hb dX6_drift_135 (by decide) ?_
            refine lv_istore (lv' := [(5, .int o17), (7, .int ((((x6.1 * (1103515245 : Int32)) + (12345 : Int32)) >>> ((16 : Int32) &&& 31)) &&& (32767 : Int32))), (4, .int ((x6.1 * (1103515245 : Int32)) + (12345 : Int32))), (0, .ref a_m), (2, .int u2), (3, .int u3), (6, .int x6.2.2.1)]) hx hb dX6_drift_140 hl (by decide) rfl (fun ls hl => ?_)
            refine lv_iinc (v := x6.2.2.1 + (1 : Int32)) (lv' := [(6, .int (x6.2.2.1 + (1 : Int32))), (5, .int o17), (7, .int ((((x6.1 * (1103515245 : Int32)) + (12345 : Int32)) >>> ((16 : Int32) &&& 31)) &&& (32767 : Int32))), (4, .int ((x6.1 * (1103515245 : Int32)) + (12345 : Int32))), (0, .ref a_m), (2, .int u2), (3, .int u3)]) hx hb dX6_drift_142 hl (k := 6) rfl rfl (by decide) rfl (fun ls hl => ?_)
            refine lv_goto (tgt := 58) hx hb dX6_drift_145 (by decide) ?_
            exact hC7 _ (zs h) H locs ls hP hD hS (lv_sub hl [4, 5, 6, 3, 1, 0] rfl)
      · have h := zit c22 h
        refine lv_bipush (v := (-2)) hx hb dX6_drift_34 (by decide) ?_
        have hr := (zs h)
        subst hr
        exact hret H locs ls 36 hP hS dX6_drift_36
    · have h := zit c23 h
      refine lv_iconst (v := (-1)) hx hb dX6_drift_22 (by decide) ?_
      have hr := (zs h)
      subst hr
      exact hret H locs ls 23 hP hS dX6_drift_23
theorem iw_X6_keep_X6 : ∀ w ∈ wsX60, w ∈ wsX6_keep := fun _ h => List.mem_cons_of_mem _ (List.mem_append_right _ h)
set_option maxHeartbeats 4000000 in
set_option maxRecDepth 100000 in
theorem c_X6_keep (l : Launch) (G : va_G) (k : Nat → ClassId) (tL tM : Nat) (sK sV : Nat → Nat) (a_m : Nat) (a_m_state : Nat) (a_m_readPage : Nat) (a_m_tape : Nat) (a_m_cuts : Nat) (a_m_letters : Nat) (a_m_seen : Nat) (a_m_pointBy : Nat) (a_m_isKept : Nat) (a_m_lanes : Nat) (a_m_lengths : Nat) (a_m_sheetCells : Nat) (sz : Nat) (m_toldOnce : Int32) (m_taped : Int32) (m_fault : Int32) (m_broken : Int32) (m_brokenAt : Int32) (m_spot : Int32) (m_here : Int32) (m_token : Int32) (m_value : Int32) (m_silent : Int32) (m_greatest : Int32) (m_moves : Int32) (m_holders : Int32) (m_seenMany : Int32) (m_torn : Int32) (m_state : Nat → Int32) (m_isKept : Nat → Int32) (u1 : Int32) (out : Int32 × (Nat → Int32) × (Nat → Int32)) (h : p_X6_keep u1 m_state m_isKept = some out) : zMi l yX6_keep wsX6_keep 1 25 G k tL tM sK sV [.ref a_m, .int u1] [(a_m, .inr (6, [.ref a_m_state, .ref a_m_readPage, .int m_toldOnce, .ref a_m_tape, .int m_taped, .int m_fault, .int m_broken, .int m_brokenAt, .int m_spot, .int m_here, .int m_token, .int m_value, .ref a_m_cuts, .ref a_m_letters, .int m_silent, .int m_greatest, .int m_moves, .int m_holders, .ref a_m_seen, .int m_seenMany, .ref a_m_pointBy, .ref a_m_isKept, .ref a_m_lanes, .ref a_m_lengths, .ref a_m_sheetCells, .int m_torn])), (a_m_state, .inl (k 0, 156, .inl m_state)), (a_m_isKept, .inl (k 3, 2, .inl m_isKept))] [(a_m, .inr (6, [.ref a_m_state, .ref a_m_readPage, .int m_toldOnce, .ref a_m_tape, .int m_taped, .int m_fault, .int m_broken, .int m_brokenAt, .int m_spot, .int m_here, .int m_token, .int m_value, .ref a_m_cuts, .ref a_m_letters, .int m_silent, .int m_greatest, .int m_moves, .int m_holders, .ref a_m_seen, .int m_seenMany, .ref a_m_pointBy, .ref a_m_isKept, .ref a_m_lanes, .ref a_m_lengths, .ref a_m_sheetCells, .int m_torn])), (a_m_state, .inl (k 0, 156, .inl out.2.1)), (a_m_isKept, .inl (k 3, 2, .inl out.2.2))] out.1 sz := by
  refine z_meti (cc := cX6_keep) (maxL := 3) (by decide) rfl (Nat.le_of_ble_eq_true rfl) ?_
  intro p e s m below meth c A Q H locs ls hx hb hml hts hown hA hK hE hret hP hD hS hl
  have hown : s.vm.findClass RX6 = some m.cls := hown
  have hl : lv_has ls 3 [(0, .ref a_m), (1, .int u1)] := hl
  unfold p_X6_keep at h
  refine lv_iload_n hx hb dX6_keep_0 rfl (lv_at hl 1 rfl) ?_
  refine lv_i2l (v := u1.toInt64) hx hb dX6_keep_1 rfl ?_
  refine lv_lconst (v := 0) hx hb dX6_keep_2 (by decide) ?_
  refine lv_lconst (v := 1) hx hb dX6_keep_3 (by decide) ?_
  obtain ⟨o1, hv, h⟩ := zb h
  refine z_goi (w2 := [(a_m, .inr (6, [.ref a_m_state, .ref a_m_readPage, .int m_toldOnce, .ref a_m_tape, .int m_taped, .int m_fault, .int m_broken, .int m_brokenAt, .int m_spot, .int m_here, .int m_token, .int m_value, .ref a_m_cuts, .ref a_m_letters, .int m_silent, .int m_greatest, .int m_moves, .int m_holders, .ref a_m_seen, .int m_seenMany, .ref a_m_pointBy, .ref a_m_isKept, .ref a_m_lanes, .ref a_m_lengths, .ref a_m_sheetCells, .int m_torn])), (a_m_state, .inl (k 0, 156, .inl m_state)), (a_m_isKept, .inl (k 3, 2, .inl m_isKept))]) [] (va_runS (As := [.long u1.toInt64, .long (0 : Int64), .long (1 : Int64)]) (rest := []) ⟨hx, hb, hml, hown, hts⟩ (c_X6_in l G k tL tM sK sV H.size u1.toInt64 (0 : Int64) (1 : Int64) o1 hv) (va_cwS 3 hts gX6_keep_X6_in rfl rfl rfl (by decide +kernel) ⟨Nat.le_of_ble_eq_true rfl, Nat.le_of_ble_eq_true rfl⟩) (z_preS (wc := []) [] hK hE hA hP hD hS (by decide) rfl) rfl rfl hl.1 rfl (lv_room (Nat.le_of_ble_eq_true rfl)) dX6_keep_4 ⟨Nat.le_refl _, Nat.le_refl _⟩) hA hP hD hS rfl rfl rfl rfl (fun H locs hP hD hS => ?_)
  refine lv_if_ne (tgt := 12) hx hb dX6_keep_7 (by decide) (fun c7 => ?_) (fun c7 => ?_)
  · have h := zif c7 h
    refine lv_aload_n hx hb dX6_keep_12 rfl (lv_at hl 0 rfl) ?_
    refine lv_iconst (v := 0) hx hb dX6_keep_13 (by decide) ?_
    refine lv_bipush (v := 26) hx hb dX6_keep_14 (by decide) ?_
    refine lv_iload_n hx hb dX6_keep_16 rfl (lv_at hl 1 rfl) ?_
    refine lv_iconst (v := 1) hx hb dX6_keep_17 (by decide) ?_
    refine lv_iadd hx hb dX6_keep_18 ?_
    refine lv_imul hx hb dX6_keep_19 ?_
    obtain ⟨o2, hv, h⟩ := zb h
    refine z_gov (w2 := [(a_m, .inr (6, [.ref a_m_state, .ref a_m_readPage, .int m_toldOnce, .ref a_m_tape, .int m_taped, .int m_fault, .int m_broken, .int m_brokenAt, .int m_spot, .int m_here, .int m_token, .int m_value, .ref a_m_cuts, .ref a_m_letters, .int m_silent, .int m_greatest, .int m_moves, .int m_holders, .ref a_m_seen, .int m_seenMany, .ref a_m_pointBy, .ref a_m_isKept, .ref a_m_lanes, .ref a_m_lengths, .ref a_m_sheetCells, .int m_torn])), (a_m_state, .inl (k 0, 156, .inl o2)), (a_m_isKept, .inl (k 3, 2, .inl m_isKept))]) [0, 1] (va_runV (As := [.int (0 : Int32), .int ((26 : Int32) * (u1 + (1 : Int32)))]) (rest := []) ⟨hx, hb, hml, hown, hts⟩ (c_X6_copies l G k tL tM sK sV a_m a_m_state a_m_readPage a_m_tape a_m_cuts a_m_letters a_m_seen a_m_pointBy a_m_isKept a_m_lanes a_m_lengths a_m_sheetCells H.size m_toldOnce m_taped m_fault m_broken m_brokenAt m_spot m_here m_token m_value m_silent m_greatest m_moves m_holders m_seenMany m_torn m_state (0 : Int32) ((26 : Int32) * (u1 + (1 : Int32))) o2 hv) (cwV 2 hts gX6_keep_X6_copies rfl rfl rfl (by decide +kernel) ⟨Nat.le_of_ble_eq_true rfl, Nat.le_of_ble_eq_true rfl⟩) (z_preV (wc := [(a_m, .inr (6, [.ref a_m_state, .ref a_m_readPage, .int m_toldOnce, .ref a_m_tape, .int m_taped, .int m_fault, .int m_broken, .int m_brokenAt, .int m_spot, .int m_here, .int m_token, .int m_value, .ref a_m_cuts, .ref a_m_letters, .int m_silent, .int m_greatest, .int m_moves, .int m_holders, .ref a_m_seen, .int m_seenMany, .ref a_m_pointBy, .ref a_m_isKept, .ref a_m_lanes, .ref a_m_lengths, .ref a_m_sheetCells, .int m_torn])), (a_m_state, .inl (k 0, 156, .inl m_state))]) [0, 1] 0 6 hK hE hA hP hD hS (by decide) rfl rfl rfl) rfl rfl hl.1 rfl (lv_room (Nat.le_of_ble_eq_true rfl)) dX6_keep_20 ⟨Nat.le_refl _, Nat.le_refl _⟩) hA hP hD hS rfl rfl rfl rfl (fun H locs hP hD hS => ?_)
    refine lv_aload_n hx hb dX6_keep_23 rfl (lv_at hl 0 rfl) ?_
    refine va_get (D := G) (ci := 6) (v := .ref a_m_isKept) (C := RX6) (T := TX6) (N := 26) hx hb hts iw_X6_keep_X6 hown hK hP 0 rfl rfl 21 (by decide) (hts (.fieldLink RX6 35 "SpireLeanModel" "isKept" "[Z") (List.mem_of_getElem? (i := 1) rfl)) (fun _ h9 => h9) rfl dX6_keep_24 ?_
    refine lv_iload_n hx hb dX6_keep_27 rfl (lv_at hl 1 rfl) ?_
    obtain ⟨v3, hv, h⟩ := zb h
    refine z_zald hx hb hK hP 2 3 rfl rfl hv dX6_keep_28 ?_
    refine lv_if_eq (tgt := 36) hx hb dX6_keep_29 (by decide) (fun c6 => ?_) (fun c6 => ?_)
    · have h := zit c6 h
      refine lv_iconst (v := 0) hx hb dX6_keep_36 (by decide) ?_
      refine lv_istore_n (lv' := [(2, .int (0 : Int32)), (0, .ref a_m), (1, .int u1)]) hx hb dX6_keep_37 rfl hl (by decide) rfl (fun ls hl => ?_)
      refine lv_aload_n hx hb dX6_keep_38 rfl (lv_at hl 1 rfl) ?_
      refine va_get (D := G) (ci := 6) (v := .ref a_m_isKept) (C := RX6) (T := TX6) (N := 26) hx hb hts iw_X6_keep_X6 hown hK hP 0 rfl rfl 21 (by decide) (hts (.fieldLink RX6 35 "SpireLeanModel" "isKept" "[Z") (List.mem_of_getElem? (i := 1) rfl)) (fun _ h9 => h9) rfl dX6_keep_39 ?_
      refine lv_iload_n hx hb dX6_keep_42 rfl (lv_at hl 2 rfl) ?_
      refine lv_iconst (v := 1) hx hb dX6_keep_43 (by decide) ?_
      obtain ⟨v4, hv, h⟩ := zb h
      refine z_zast hx hb hK hP hD hS 2 3 rfl rfl hv dX6_keep_44 (fun H locs hP hD hS => ?_)
      have hP : va_P G vwCl [(a_m, .inr (6, [.ref a_m_state, .ref a_m_readPage, .int m_toldOnce, .ref a_m_tape, .int m_taped, .int m_fault, .int m_broken, .int m_brokenAt, .int m_spot, .int m_here, .int m_token, .int m_value, .ref a_m_cuts, .ref a_m_letters, .int m_silent, .int m_greatest, .int m_moves, .int m_holders, .ref a_m_seen, .int m_seenMany, .ref a_m_pointBy, .ref a_m_isKept, .ref a_m_lanes, .ref a_m_lengths, .ref a_m_sheetCells, .int m_torn])), (a_m_state, .inl (k 0, 156, .inl o2)), (a_m_isKept, .inl (k 3, 2, .inl v4))] H := hP
      have hD : va_D A [(a_m, .inr (6, [.ref a_m_state, .ref a_m_readPage, .int m_toldOnce, .ref a_m_tape, .int m_taped, .int m_fault, .int m_broken, .int m_brokenAt, .int m_spot, .int m_here, .int m_token, .int m_value, .ref a_m_cuts, .ref a_m_letters, .int m_silent, .int m_greatest, .int m_moves, .int m_holders, .ref a_m_seen, .int m_seenMany, .ref a_m_pointBy, .ref a_m_isKept, .ref a_m_lanes, .ref a_m_lengths, .ref a_m_sheetCells, .int m_torn])), (a_m_state, .inl (k 0, 156, .inl o2)), (a_m_isKept, .inl (k 3, 2, .inl v4))] := hD
      refine lv_iload_n hx hb dX6_keep_45 rfl (lv_at hl 0 rfl) ?_
      have hr := (zs h)
      subst hr
      exact hret H locs ls 46 hP hS dX6_keep_46
    · have h := zif c6 h
      refine lv_iconst (v := 1) hx hb dX6_keep_32 (by decide) ?_
      refine lv_goto (tgt := 37) hx hb dX6_keep_33 (by decide) ?_
      refine lv_istore_n (lv' := [(2, .int (1 : Int32)), (0, .ref a_m), (1, .int u1)]) hx hb dX6_keep_37 rfl hl (by decide) rfl (fun ls hl => ?_)
      refine lv_aload_n hx hb dX6_keep_38 rfl (lv_at hl 1 rfl) ?_
      refine va_get (D := G) (ci := 6) (v := .ref a_m_isKept) (C := RX6) (T := TX6) (N := 26) hx hb hts iw_X6_keep_X6 hown hK hP 0 rfl rfl 21 (by decide) (hts (.fieldLink RX6 35 "SpireLeanModel" "isKept" "[Z") (List.mem_of_getElem? (i := 1) rfl)) (fun _ h9 => h9) rfl dX6_keep_39 ?_
      refine lv_iload_n hx hb dX6_keep_42 rfl (lv_at hl 2 rfl) ?_
      refine lv_iconst (v := 1) hx hb dX6_keep_43 (by decide) ?_
      obtain ⟨v5, hv, h⟩ := zb h
      refine z_zast hx hb hK hP hD hS 2 3 rfl rfl hv dX6_keep_44 (fun H locs hP hD hS => ?_)
      have hP : va_P G vwCl [(a_m, .inr (6, [.ref a_m_state, .ref a_m_readPage, .int m_toldOnce, .ref a_m_tape, .int m_taped, .int m_fault, .int m_broken, .int m_brokenAt, .int m_spot, .int m_here, .int m_token, .int m_value, .ref a_m_cuts, .ref a_m_letters, .int m_silent, .int m_greatest, .int m_moves, .int m_holders, .ref a_m_seen, .int m_seenMany, .ref a_m_pointBy, .ref a_m_isKept, .ref a_m_lanes, .ref a_m_lengths, .ref a_m_sheetCells, .int m_torn])), (a_m_state, .inl (k 0, 156, .inl o2)), (a_m_isKept, .inl (k 3, 2, .inl v5))] H := hP
      have hD : va_D A [(a_m, .inr (6, [.ref a_m_state, .ref a_m_readPage, .int m_toldOnce, .ref a_m_tape, .int m_taped, .int m_fault, .int m_broken, .int m_brokenAt, .int m_spot, .int m_here, .int m_token, .int m_value, .ref a_m_cuts, .ref a_m_letters, .int m_silent, .int m_greatest, .int m_moves, .int m_holders, .ref a_m_seen, .int m_seenMany, .ref a_m_pointBy, .ref a_m_isKept, .ref a_m_lanes, .ref a_m_lengths, .ref a_m_sheetCells, .int m_torn])), (a_m_state, .inl (k 0, 156, .inl o2)), (a_m_isKept, .inl (k 3, 2, .inl v5))] := hD
      refine lv_iload_n hx hb dX6_keep_45 rfl (lv_at hl 0 rfl) ?_
      have hr := (zs h)
      subst hr
      exact hret H locs ls 46 hP hS dX6_keep_46
  · have h := zit c7 h
    refine lv_iconst (v := (-1)) hx hb dX6_keep_10 (by decide) ?_
    have hr := (zs h)
    subst hr
    exact hret H locs ls 11 hP hS dX6_keep_11
theorem iw_X6_back_X6 : ∀ w ∈ wsX60, w ∈ wsX6_back := fun _ h => List.mem_cons_of_mem _ (List.mem_append_right _ h)
set_option maxHeartbeats 4000000 in
set_option maxRecDepth 100000 in
theorem c_X6_back (l : Launch) (G : va_G) (k : Nat → ClassId) (tL tM : Nat) (sK sV : Nat → Nat) (a_m : Nat) (a_m_state : Nat) (a_m_readPage : Nat) (a_m_tape : Nat) (a_m_cuts : Nat) (a_m_letters : Nat) (a_m_seen : Nat) (a_m_pointBy : Nat) (a_m_isKept : Nat) (a_m_lanes : Nat) (a_m_lengths : Nat) (a_m_sheetCells : Nat) (sz : Nat) (m_toldOnce : Int32) (m_taped : Int32) (m_fault : Int32) (m_broken : Int32) (m_brokenAt : Int32) (m_spot : Int32) (m_here : Int32) (m_token : Int32) (m_value : Int32) (m_silent : Int32) (m_greatest : Int32) (m_moves : Int32) (m_holders : Int32) (m_seenMany : Int32) (m_torn : Int32) (m_state : Nat → Int32) (m_isKept : Nat → Int32) (u1 : Int32) (out : Int32 × (Nat → Int32)) (h : p_X6_back u1 m_state m_isKept = some out) : zMi l yX6_back wsX6_back 1 25 G k tL tM sK sV [.ref a_m, .int u1] [(a_m, .inr (6, [.ref a_m_state, .ref a_m_readPage, .int m_toldOnce, .ref a_m_tape, .int m_taped, .int m_fault, .int m_broken, .int m_brokenAt, .int m_spot, .int m_here, .int m_token, .int m_value, .ref a_m_cuts, .ref a_m_letters, .int m_silent, .int m_greatest, .int m_moves, .int m_holders, .ref a_m_seen, .int m_seenMany, .ref a_m_pointBy, .ref a_m_isKept, .ref a_m_lanes, .ref a_m_lengths, .ref a_m_sheetCells, .int m_torn])), (a_m_state, .inl (k 0, 156, .inl m_state)), (a_m_isKept, .inl (k 3, 2, .inl m_isKept))] [(a_m, .inr (6, [.ref a_m_state, .ref a_m_readPage, .int m_toldOnce, .ref a_m_tape, .int m_taped, .int m_fault, .int m_broken, .int m_brokenAt, .int m_spot, .int m_here, .int m_token, .int m_value, .ref a_m_cuts, .ref a_m_letters, .int m_silent, .int m_greatest, .int m_moves, .int m_holders, .ref a_m_seen, .int m_seenMany, .ref a_m_pointBy, .ref a_m_isKept, .ref a_m_lanes, .ref a_m_lengths, .ref a_m_sheetCells, .int m_torn])), (a_m_state, .inl (k 0, 156, .inl out.2)), (a_m_isKept, .inl (k 3, 2, .inl m_isKept))] out.1 sz := by
  refine z_meti (cc := cX6_back) (maxL := 2) (by decide) rfl (Nat.le_of_ble_eq_true rfl) ?_
  intro p e s m below meth c A Q H locs ls hx hb hml hts hown hA hK hE hret hP hD hS hl
  have hown : s.vm.findClass RX6 = some m.cls := hown
  have hl : lv_has ls 2 [(0, .ref a_m), (1, .int u1)] := hl
  unfold p_X6_back at h
  refine lv_iload_n hx hb dX6_back_0 rfl (lv_at hl 1 rfl) ?_
  refine lv_i2l (v := u1.toInt64) hx hb dX6_back_1 rfl ?_
  refine lv_lconst (v := 0) hx hb dX6_back_2 (by decide) ?_
  refine lv_lconst (v := 1) hx hb dX6_back_3 (by decide) ?_
  obtain ⟨o1, hv, h⟩ := zb h
  refine z_goi (w2 := [(a_m, .inr (6, [.ref a_m_state, .ref a_m_readPage, .int m_toldOnce, .ref a_m_tape, .int m_taped, .int m_fault, .int m_broken, .int m_brokenAt, .int m_spot, .int m_here, .int m_token, .int m_value, .ref a_m_cuts, .ref a_m_letters, .int m_silent, .int m_greatest, .int m_moves, .int m_holders, .ref a_m_seen, .int m_seenMany, .ref a_m_pointBy, .ref a_m_isKept, .ref a_m_lanes, .ref a_m_lengths, .ref a_m_sheetCells, .int m_torn])), (a_m_state, .inl (k 0, 156, .inl m_state)), (a_m_isKept, .inl (k 3, 2, .inl m_isKept))]) [] (va_runS (As := [.long u1.toInt64, .long (0 : Int64), .long (1 : Int64)]) (rest := []) ⟨hx, hb, hml, hown, hts⟩ (c_X6_in l G k tL tM sK sV H.size u1.toInt64 (0 : Int64) (1 : Int64) o1 hv) (va_cwS 3 hts gX6_back_X6_in rfl rfl rfl (by decide +kernel) ⟨Nat.le_of_ble_eq_true rfl, Nat.le_of_ble_eq_true rfl⟩) (z_preS (wc := []) [] hK hE hA hP hD hS (by decide) rfl) rfl rfl hl.1 rfl (lv_room (Nat.le_of_ble_eq_true rfl)) dX6_back_4 ⟨Nat.le_refl _, Nat.le_refl _⟩) hA hP hD hS rfl rfl rfl rfl (fun H locs hP hD hS => ?_)
  refine lv_if_ne (tgt := 12) hx hb dX6_back_7 (by decide) (fun c6 => ?_) (fun c6 => ?_)
  · have h := zif c6 h
    refine lv_aload_n hx hb dX6_back_12 rfl (lv_at hl 0 rfl) ?_
    refine va_get (D := G) (ci := 6) (v := .ref a_m_isKept) (C := RX6) (T := TX6) (N := 26) hx hb hts iw_X6_back_X6 hown hK hP 0 rfl rfl 21 (by decide) (hts (.fieldLink RX6 35 "SpireLeanModel" "isKept" "[Z") (List.mem_of_getElem? (i := 1) rfl)) (fun _ h9 => h9) rfl dX6_back_13 ?_
    refine lv_iload_n hx hb dX6_back_16 rfl (lv_at hl 1 rfl) ?_
    obtain ⟨v2, hv, h⟩ := zb h
    refine z_zald hx hb hK hP 2 3 rfl rfl hv dX6_back_17 ?_
    refine lv_if_ne (tgt := 24) hx hb dX6_back_18 (by decide) (fun c5 => ?_) (fun c5 => ?_)
    · have h := zif c5 h
      refine lv_aload_n hx hb dX6_back_24 rfl (lv_at hl 0 rfl) ?_
      refine lv_bipush (v := 26) hx hb dX6_back_25 (by decide) ?_
      refine lv_iload_n hx hb dX6_back_27 rfl (lv_at hl 1 rfl) ?_
      refine lv_iconst (v := 1) hx hb dX6_back_28 (by decide) ?_
      refine lv_iadd hx hb dX6_back_29 ?_
      refine lv_imul hx hb dX6_back_30 ?_
      refine lv_iconst (v := 0) hx hb dX6_back_31 (by decide) ?_
      obtain ⟨o3, hv, h⟩ := zb h
      refine z_gov (w2 := [(a_m, .inr (6, [.ref a_m_state, .ref a_m_readPage, .int m_toldOnce, .ref a_m_tape, .int m_taped, .int m_fault, .int m_broken, .int m_brokenAt, .int m_spot, .int m_here, .int m_token, .int m_value, .ref a_m_cuts, .ref a_m_letters, .int m_silent, .int m_greatest, .int m_moves, .int m_holders, .ref a_m_seen, .int m_seenMany, .ref a_m_pointBy, .ref a_m_isKept, .ref a_m_lanes, .ref a_m_lengths, .ref a_m_sheetCells, .int m_torn])), (a_m_state, .inl (k 0, 156, .inl o3)), (a_m_isKept, .inl (k 3, 2, .inl m_isKept))]) [0, 1] (va_runV (As := [.int ((26 : Int32) * (u1 + (1 : Int32))), .int (0 : Int32)]) (rest := []) ⟨hx, hb, hml, hown, hts⟩ (c_X6_copies l G k tL tM sK sV a_m a_m_state a_m_readPage a_m_tape a_m_cuts a_m_letters a_m_seen a_m_pointBy a_m_isKept a_m_lanes a_m_lengths a_m_sheetCells H.size m_toldOnce m_taped m_fault m_broken m_brokenAt m_spot m_here m_token m_value m_silent m_greatest m_moves m_holders m_seenMany m_torn m_state ((26 : Int32) * (u1 + (1 : Int32))) (0 : Int32) o3 hv) (cwV 2 hts gX6_back_X6_copies rfl rfl rfl (by decide +kernel) ⟨Nat.le_of_ble_eq_true rfl, Nat.le_of_ble_eq_true rfl⟩) (z_preV (wc := [(a_m, .inr (6, [.ref a_m_state, .ref a_m_readPage, .int m_toldOnce, .ref a_m_tape, .int m_taped, .int m_fault, .int m_broken, .int m_brokenAt, .int m_spot, .int m_here, .int m_token, .int m_value, .ref a_m_cuts, .ref a_m_letters, .int m_silent, .int m_greatest, .int m_moves, .int m_holders, .ref a_m_seen, .int m_seenMany, .ref a_m_pointBy, .ref a_m_isKept, .ref a_m_lanes, .ref a_m_lengths, .ref a_m_sheetCells, .int m_torn])), (a_m_state, .inl (k 0, 156, .inl m_state))]) [0, 1] 0 6 hK hE hA hP hD hS (by decide) rfl rfl rfl) rfl rfl hl.1 rfl (lv_room (Nat.le_of_ble_eq_true rfl)) dX6_back_32 ⟨Nat.le_refl _, Nat.le_refl _⟩) hA hP hD hS rfl rfl rfl rfl (fun H locs hP hD hS => ?_)
      refine lv_aload_n hx hb dX6_back_35 rfl (lv_at hl 0 rfl) ?_
      refine va_get (D := G) (ci := 6) (v := .ref a_m_state) (C := RX6) (T := TX6) (N := 26) hx hb hts iw_X6_back_X6 hown hK hP 0 rfl rfl 0 (by decide) (hts (.fieldLink RX6 7 "SpireLeanModel" "state" "[I") (List.mem_of_getElem? (i := 2) rfl)) (fun _ h9 => h9) rfl dX6_back_36 ?_
      refine lv_bipush (v := 25) hx hb dX6_back_39 (by decide) ?_
      obtain ⟨v4, hv, h⟩ := zb h
      refine z_iald hx hb hK hP 1 0 rfl rfl hv dX6_back_41 ?_
      have hr := (zs h)
      subst hr
      exact hret H locs ls 42 hP hS dX6_back_42
    · have h := zit c5 h
      refine lv_bipush (v := (-2)) hx hb dX6_back_21 (by decide) ?_
      have hr := (zs h)
      subst hr
      exact hret H locs ls 23 hP hS dX6_back_23
  · have h := zit c6 h
    refine lv_iconst (v := (-1)) hx hb dX6_back_10 (by decide) ?_
    have hr := (zs h)
    subst hr
    exact hret H locs ls 11 hP hS dX6_back_11
theorem iw_X6_sheet_X6 : ∀ w ∈ wsX60, w ∈ wsX6_sheet := fun _ h => List.mem_cons_of_mem _ (List.mem_append_right _ h)
set_option maxHeartbeats 4000000 in
set_option maxRecDepth 100000 in
theorem c_X6_sheet (l : Launch) (G : va_G) (k : Nat → ClassId) (tL tM : Nat) (sK sV : Nat → Nat) (a_m : Nat) (a_m_state : Nat) (a_m_readPage : Nat) (a_m_tape : Nat) (a_m_cuts : Nat) (a_m_letters : Nat) (a_m_seen : Nat) (a_m_pointBy : Nat) (a_m_isKept : Nat) (a_m_lanes : Nat) (a_m_lengths : Nat) (a_m_sheetCells : Nat) (sz : Nat) (m_toldOnce : Int32) (m_taped : Int32) (m_fault : Int32) (m_broken : Int32) (m_brokenAt : Int32) (m_spot : Int32) (m_here : Int32) (m_token : Int32) (m_value : Int32) (m_silent : Int32) (m_greatest : Int32) (m_moves : Int32) (m_holders : Int32) (m_seenMany : Int32) (m_torn : Int32) (m_lanes : Nat → Int32) (m_lengths : Nat → Int32) (m_sheetCells : Nat → Int32) (u1 : Int32) (u2 : Int32) (u3 : Int32) (out : Int32 × (Nat → Int32) × (Nat → Int32) × (Nat → Int32)) (h : p_X6_sheet u1 u2 u3 m_lanes m_lengths m_sheetCells = some out) : zMi l yX6_sheet wsX6_sheet 1 25 G k tL tM sK sV [.ref a_m, .int u1, .int u2, .int u3] [(a_m, .inr (6, [.ref a_m_state, .ref a_m_readPage, .int m_toldOnce, .ref a_m_tape, .int m_taped, .int m_fault, .int m_broken, .int m_brokenAt, .int m_spot, .int m_here, .int m_token, .int m_value, .ref a_m_cuts, .ref a_m_letters, .int m_silent, .int m_greatest, .int m_moves, .int m_holders, .ref a_m_seen, .int m_seenMany, .ref a_m_pointBy, .ref a_m_isKept, .ref a_m_lanes, .ref a_m_lengths, .ref a_m_sheetCells, .int m_torn])), (a_m_lanes, .inl (k 0, 4, .inl m_lanes)), (a_m_lengths, .inl (k 0, 4, .inl m_lengths)), (a_m_sheetCells, .inl (k 0, 160, .inl m_sheetCells))] [(a_m, .inr (6, [.ref a_m_state, .ref a_m_readPage, .int m_toldOnce, .ref a_m_tape, .int m_taped, .int m_fault, .int m_broken, .int m_brokenAt, .int m_spot, .int m_here, .int m_token, .int m_value, .ref a_m_cuts, .ref a_m_letters, .int m_silent, .int m_greatest, .int m_moves, .int m_holders, .ref a_m_seen, .int m_seenMany, .ref a_m_pointBy, .ref a_m_isKept, .ref a_m_lanes, .ref a_m_lengths, .ref a_m_sheetCells, .int m_torn])), (a_m_lanes, .inl (k 0, 4, .inl out.2.1)), (a_m_lengths, .inl (k 0, 4, .inl out.2.2.1)), (a_m_sheetCells, .inl (k 0, 160, .inl out.2.2.2))] out.1 sz := by
  refine z_meti (cc := cX6_sheet) (maxL := 5) (by decide) rfl (Nat.le_of_ble_eq_true rfl) ?_
  intro p e s m below meth c A Q H locs ls hx hb hml hts hown hA hK hE hret hP hD hS hl
  have hown : s.vm.findClass RX6 = some m.cls := hown
  have hl : lv_has ls 5 [(0, .ref a_m), (1, .int u1), (2, .int u2), (3, .int u3)] := hl
  unfold p_X6_sheet at h
  refine lv_iload_n hx hb dX6_sheet_0 rfl (lv_at hl 1 rfl) ?_
  refine lv_i2l (v := u1.toInt64) hx hb dX6_sheet_1 rfl ?_
  refine lv_lconst (v := 0) hx hb dX6_sheet_2 (by decide) ?_
  refine lv_ldc2 hx hb hown (hts (.constantLong RX6 156 (3)) (List.mem_of_getElem? (i := 1) rfl)) dX6_sheet_3 ?_
  obtain ⟨o1, hv, h⟩ := zb h
  refine z_goi (w2 := [(a_m, .inr (6, [.ref a_m_state, .ref a_m_readPage, .int m_toldOnce, .ref a_m_tape, .int m_taped, .int m_fault, .int m_broken, .int m_brokenAt, .int m_spot, .int m_here, .int m_token, .int m_value, .ref a_m_cuts, .ref a_m_letters, .int m_silent, .int m_greatest, .int m_moves, .int m_holders, .ref a_m_seen, .int m_seenMany, .ref a_m_pointBy, .ref a_m_isKept, .ref a_m_lanes, .ref a_m_lengths, .ref a_m_sheetCells, .int m_torn])), (a_m_lanes, .inl (k 0, 4, .inl m_lanes)), (a_m_lengths, .inl (k 0, 4, .inl m_lengths)), (a_m_sheetCells, .inl (k 0, 160, .inl m_sheetCells))]) [] (va_runS (As := [.long u1.toInt64, .long (0 : Int64), .long (3 : Int64)]) (rest := []) ⟨hx, hb, hml, hown, hts⟩ (c_X6_in l G k tL tM sK sV H.size u1.toInt64 (0 : Int64) (3 : Int64) o1 hv) (va_cwS 3 hts gX6_sheet_X6_in rfl rfl rfl (by decide +kernel) ⟨Nat.le_of_ble_eq_true rfl, Nat.le_of_ble_eq_true rfl⟩) (z_preS (wc := []) [] hK hE hA hP hD hS (by decide) rfl) rfl rfl hl.1 rfl (lv_room (Nat.le_of_ble_eq_true rfl)) dX6_sheet_6 ⟨Nat.le_refl _, Nat.le_refl _⟩) hA hP hD hS rfl rfl rfl rfl (fun H locs hP hD hS => ?_)
  refine lv_if_eq (tgt := 30) hx hb dX6_sheet_9 (by decide) (fun c16 => ?_) (fun c16 => ?_)
  · have h := zit c16 h
    refine lv_iconst (v := (-1)) hx hb dX6_sheet_30 (by decide) ?_
    have hr := (zs h)
    subst hr
    exact hret H locs ls 31 hP hS dX6_sheet_31
  · have h := zif c16 h
    refine lv_iload_n hx hb dX6_sheet_12 rfl (lv_at hl 2 rfl) ?_
    refine lv_i2l (v := u2.toInt64) hx hb dX6_sheet_13 rfl ?_
    refine lv_lconst (v := 0) hx hb dX6_sheet_14 (by decide) ?_
    refine lv_ldc2 hx hb hown (hts (.constantLong RX6 235 (2)) (List.mem_of_getElem? (i := 2) rfl)) dX6_sheet_15 ?_
    obtain ⟨o2, hv, h⟩ := zb h
    refine z_goi (w2 := [(a_m, .inr (6, [.ref a_m_state, .ref a_m_readPage, .int m_toldOnce, .ref a_m_tape, .int m_taped, .int m_fault, .int m_broken, .int m_brokenAt, .int m_spot, .int m_here, .int m_token, .int m_value, .ref a_m_cuts, .ref a_m_letters, .int m_silent, .int m_greatest, .int m_moves, .int m_holders, .ref a_m_seen, .int m_seenMany, .ref a_m_pointBy, .ref a_m_isKept, .ref a_m_lanes, .ref a_m_lengths, .ref a_m_sheetCells, .int m_torn])), (a_m_lanes, .inl (k 0, 4, .inl m_lanes)), (a_m_lengths, .inl (k 0, 4, .inl m_lengths)), (a_m_sheetCells, .inl (k 0, 160, .inl m_sheetCells))]) [] (va_runS (As := [.long u2.toInt64, .long (0 : Int64), .long (2 : Int64)]) (rest := []) ⟨hx, hb, hml, hown, hts⟩ (c_X6_in l G k tL tM sK sV H.size u2.toInt64 (0 : Int64) (2 : Int64) o2 hv) (va_cwS 3 hts gX6_sheet_X6_in rfl rfl rfl (by decide +kernel) ⟨Nat.le_of_ble_eq_true rfl, Nat.le_of_ble_eq_true rfl⟩) (z_preS (wc := []) [] hK hE hA hP hD hS (by decide) rfl) rfl rfl hl.1 rfl (lv_room (Nat.le_of_ble_eq_true rfl)) dX6_sheet_18 ⟨Nat.le_refl _, Nat.le_refl _⟩) hA hP hD hS rfl rfl rfl rfl (fun H locs hP hD hS => ?_)
    refine lv_if_eq (tgt := 30) hx hb dX6_sheet_21 (by decide) (fun c15 => ?_) (fun c15 => ?_)
    · have h := zit c15 h
      refine lv_iconst (v := (-1)) hx hb dX6_sheet_30 (by decide) ?_
      have hr := (zs h)
      subst hr
      exact hret H locs ls 31 hP hS dX6_sheet_31
    · have h := zif c15 h
      refine lv_iload_n hx hb dX6_sheet_24 rfl (lv_at hl 3 rfl) ?_
      refine lv_bipush (v := 40) hx hb dX6_sheet_25 (by decide) ?_
      refine lv_icmp_le (tgt := 32) hx hb dX6_sheet_27 (by decide) (fun c14 => ?_) (fun c14 => ?_)
      · have h := zit c14 h
        refine lv_iload_n hx hb dX6_sheet_32 rfl (lv_at hl 3 rfl) ?_
        refine lv_if_ge (tgt := 39) hx hb dX6_sheet_33 (by decide) (fun c13 => ?_) (fun c13 => ?_)
        · have h := zit c13 h
          refine lv_aload_n hx hb dX6_sheet_39 rfl (lv_at hl 0 rfl) ?_
          refine va_get (D := G) (ci := 6) (v := .ref a_m_lanes) (C := RX6) (T := TX6) (N := 26) hx hb hts iw_X6_sheet_X6 hown hK hP 0 rfl rfl 22 (by decide) (hts (.fieldLink RX6 39 "SpireLeanModel" "lanes" "[I") (List.mem_of_getElem? (i := 3) rfl)) (fun _ h9 => h9) rfl dX6_sheet_40 ?_
          refine lv_iload_n hx hb dX6_sheet_43 rfl (lv_at hl 1 rfl) ?_
          refine lv_iload_n hx hb dX6_sheet_44 rfl (lv_at hl 2 rfl) ?_
          obtain ⟨v3, hv, h⟩ := zb h
          refine z_iast hx hb hK hP hD hS 1 0 rfl rfl hv dX6_sheet_45 (fun H locs hP hD hS => ?_)
          have hP : va_P G vwCl [(a_m, .inr (6, [.ref a_m_state, .ref a_m_readPage, .int m_toldOnce, .ref a_m_tape, .int m_taped, .int m_fault, .int m_broken, .int m_brokenAt, .int m_spot, .int m_here, .int m_token, .int m_value, .ref a_m_cuts, .ref a_m_letters, .int m_silent, .int m_greatest, .int m_moves, .int m_holders, .ref a_m_seen, .int m_seenMany, .ref a_m_pointBy, .ref a_m_isKept, .ref a_m_lanes, .ref a_m_lengths, .ref a_m_sheetCells, .int m_torn])), (a_m_lanes, .inl (k 0, 4, .inl v3)), (a_m_lengths, .inl (k 0, 4, .inl m_lengths)), (a_m_sheetCells, .inl (k 0, 160, .inl m_sheetCells))] H := hP
          have hD : va_D A [(a_m, .inr (6, [.ref a_m_state, .ref a_m_readPage, .int m_toldOnce, .ref a_m_tape, .int m_taped, .int m_fault, .int m_broken, .int m_brokenAt, .int m_spot, .int m_here, .int m_token, .int m_value, .ref a_m_cuts, .ref a_m_letters, .int m_silent, .int m_greatest, .int m_moves, .int m_holders, .ref a_m_seen, .int m_seenMany, .ref a_m_pointBy, .ref a_m_isKept, .ref a_m_lanes, .ref a_m_lengths, .ref a_m_sheetCells, .int m_torn])), (a_m_lanes, .inl (k 0, 4, .inl v3)), (a_m_lengths, .inl (k 0, 4, .inl m_lengths)), (a_m_sheetCells, .inl (k 0, 160, .inl m_sheetCells))] := hD
          refine lv_aload_n hx hb dX6_sheet_46 rfl (lv_at hl 0 rfl) ?_
          refine va_get (D := G) (ci := 6) (v := .ref a_m_lengths) (C := RX6) (T := TX6) (N := 26) hx hb hts iw_X6_sheet_X6 hown hK hP 0 rfl rfl 23 (by decide) (hts (.fieldLink RX6 42 "SpireLeanModel" "lengths" "[I") (List.mem_of_getElem? (i := 4) rfl)) (fun _ h9 => h9) rfl dX6_sheet_47 ?_
          refine lv_iload_n hx hb dX6_sheet_50 rfl (lv_at hl 1 rfl) ?_
          refine lv_iload_n hx hb dX6_sheet_51 rfl (lv_at hl 3 rfl) ?_
          obtain ⟨v4, hv, h⟩ := zb h
          refine z_iast hx hb hK hP hD hS 2 0 rfl rfl hv dX6_sheet_52 (fun H locs hP hD hS => ?_)
          have hP : va_P G vwCl [(a_m, .inr (6, [.ref a_m_state, .ref a_m_readPage, .int m_toldOnce, .ref a_m_tape, .int m_taped, .int m_fault, .int m_broken, .int m_brokenAt, .int m_spot, .int m_here, .int m_token, .int m_value, .ref a_m_cuts, .ref a_m_letters, .int m_silent, .int m_greatest, .int m_moves, .int m_holders, .ref a_m_seen, .int m_seenMany, .ref a_m_pointBy, .ref a_m_isKept, .ref a_m_lanes, .ref a_m_lengths, .ref a_m_sheetCells, .int m_torn])), (a_m_lanes, .inl (k 0, 4, .inl v3)), (a_m_lengths, .inl (k 0, 4, .inl v4)), (a_m_sheetCells, .inl (k 0, 160, .inl m_sheetCells))] H := hP
          have hD : va_D A [(a_m, .inr (6, [.ref a_m_state, .ref a_m_readPage, .int m_toldOnce, .ref a_m_tape, .int m_taped, .int m_fault, .int m_broken, .int m_brokenAt, .int m_spot, .int m_here, .int m_token, .int m_value, .ref a_m_cuts, .ref a_m_letters, .int m_silent, .int m_greatest, .int m_moves, .int m_holders, .ref a_m_seen, .int m_seenMany, .ref a_m_pointBy, .ref a_m_isKept, .ref a_m_lanes, .ref a_m_lengths, .ref a_m_sheetCells, .int m_torn])), (a_m_lanes, .inl (k 0, 4, .inl v3)), (a_m_lengths, .inl (k 0, 4, .inl v4)), (a_m_sheetCells, .inl (k 0, 160, .inl m_sheetCells))] := hD
          refine lv_iconst (v := 0) hx hb dX6_sheet_53 (by decide) ?_
          refine lv_istore (lv' := [(4, .int (0 : Int32)), (0, .ref a_m), (1, .int u1), (2, .int u2), (3, .int u3)]) hx hb dX6_sheet_54 hl (by decide) rfl (fun ls hl => ?_)
          obtain ⟨e9, hv, h⟩ := zb h
          have hJ8 : ∀ (e9_ : (Nat → Int32)), e9_ = e9 → zW p l e (zR 1 25) s m ([.ref a_m, .int u1, .int u2, .int u3] : List Value).toArray below meth c Q 5 A G [(a_m, .inr (6, [.ref a_m_state, .ref a_m_readPage, .int m_toldOnce, .ref a_m_tape, .int m_taped, .int m_fault, .int m_broken, .int m_brokenAt, .int m_spot, .int m_here, .int m_token, .int m_value, .ref a_m_cuts, .ref a_m_letters, .int m_silent, .int m_greatest, .int m_moves, .int m_holders, .ref a_m_seen, .int m_seenMany, .ref a_m_pointBy, .ref a_m_isKept, .ref a_m_lanes, .ref a_m_lengths, .ref a_m_sheetCells, .int m_torn])), (a_m_lanes, .inl (k 0, 4, .inl v3)), (a_m_lengths, .inl (k 0, 4, .inl v4)), (a_m_sheetCells, .inl (k 0, 160, .inl e9_))] [] 82 [] := by
            intro e9_ hz
            subst hz
            intro H locs ls hP hD hS hl
            refine lv_iconst (v := 1) hx hb dX6_sheet_82 (by decide) ?_
            have hr := (zs h)
            subst hr
            exact hret H locs ls 83 hP hS dX6_sheet_83
          refine z_lpW (Wh := fun (x5 : Int32 × (Nat → Int32)) => zW p l e (zR 1 25) s m ([.ref a_m, .int u1, .int u2, .int u3] : List Value).toArray below meth c Q 5 A G [(a_m, .inr (6, [.ref a_m_state, .ref a_m_readPage, .int m_toldOnce, .ref a_m_tape, .int m_taped, .int m_fault, .int m_broken, .int m_brokenAt, .int m_spot, .int m_here, .int m_token, .int m_value, .ref a_m_cuts, .ref a_m_letters, .int m_silent, .int m_greatest, .int m_moves, .int m_holders, .ref a_m_seen, .int m_seenMany, .ref a_m_pointBy, .ref a_m_isKept, .ref a_m_lanes, .ref a_m_lengths, .ref a_m_sheetCells, .int m_torn])), (a_m_lanes, .inl (k 0, 4, .inl v3)), (a_m_lengths, .inl (k 0, 4, .inl v4)), (a_m_sheetCells, .inl (k 0, 160, .inl x5.2))] [(0, .ref a_m), (1, .int u1), (4, .int x5.1)] 56 []) ?_ 1000 _ hv H locs ls hP hD hS (lv_sub hl [1, 2, 0] rfl)
          clear h
          intro x5 o h hC6 hX7 H locs ls hP hD hS hl
          unfold p_X6_sheet_b56 at h
          refine lv_iload hx hb dX6_sheet_56 (lv_at hl 2 rfl) ?_
          refine lv_bipush (v := 40) hx hb dX6_sheet_58 (by decide) ?_
          refine lv_icmp_ge (tgt := 82) hx hb dX6_sheet_60 (by decide) (fun c12 => ?_) (fun c12 => ?_)
          · have h := zit c12 h
            exact hJ8 _ (hX7 _ (zs h)) H locs ls hP hD hS (lv_sub hl [] rfl)
          · have h := zif c12 h
            refine lv_aload_n hx hb dX6_sheet_63 rfl (lv_at hl 0 rfl) ?_
            refine va_get (D := G) (ci := 6) (v := .ref a_m_sheetCells) (C := RX6) (T := TX6) (N := 26) hx hb hts iw_X6_sheet_X6 hown hK hP 0 rfl rfl 24 (by decide) (hts (.fieldLink RX6 45 "SpireLeanModel" "sheetCells" "[I") (List.mem_of_getElem? (i := 5) rfl)) (fun _ h9 => h9) rfl dX6_sheet_64 ?_
            refine lv_bipush (v := 40) hx hb dX6_sheet_67 (by decide) ?_
            refine lv_iload_n hx hb dX6_sheet_69 rfl (lv_at hl 1 rfl) ?_
            refine lv_imul hx hb dX6_sheet_70 ?_
            refine lv_iload hx hb dX6_sheet_71 (lv_at hl 2 rfl) ?_
            refine lv_iadd hx hb dX6_sheet_73 ?_
            refine lv_iconst (v := 0) hx hb dX6_sheet_74 (by decide) ?_
            obtain ⟨v11, hv, h⟩ := zb h
            refine z_iast hx hb hK hP hD hS 3 0 rfl rfl hv dX6_sheet_75 (fun H locs hP hD hS => ?_)
            have hP : va_P G vwCl [(a_m, .inr (6, [.ref a_m_state, .ref a_m_readPage, .int m_toldOnce, .ref a_m_tape, .int m_taped, .int m_fault, .int m_broken, .int m_brokenAt, .int m_spot, .int m_here, .int m_token, .int m_value, .ref a_m_cuts, .ref a_m_letters, .int m_silent, .int m_greatest, .int m_moves, .int m_holders, .ref a_m_seen, .int m_seenMany, .ref a_m_pointBy, .ref a_m_isKept, .ref a_m_lanes, .ref a_m_lengths, .ref a_m_sheetCells, .int m_torn])), (a_m_lanes, .inl (k 0, 4, .inl v3)), (a_m_lengths, .inl (k 0, 4, .inl v4)), (a_m_sheetCells, .inl (k 0, 160, .inl v11))] H := hP
            have hD : va_D A [(a_m, .inr (6, [.ref a_m_state, .ref a_m_readPage, .int m_toldOnce, .ref a_m_tape, .int m_taped, .int m_fault, .int m_broken, .int m_brokenAt, .int m_spot, .int m_here, .int m_token, .int m_value, .ref a_m_cuts, .ref a_m_letters, .int m_silent, .int m_greatest, .int m_moves, .int m_holders, .ref a_m_seen, .int m_seenMany, .ref a_m_pointBy, .ref a_m_isKept, .ref a_m_lanes, .ref a_m_lengths, .ref a_m_sheetCells, .int m_torn])), (a_m_lanes, .inl (k 0, 4, .inl v3)), (a_m_lengths, .inl (k 0, 4, .inl v4)), (a_m_sheetCells, .inl (k 0, 160, .inl v11))] := hD
            refine lv_iinc (v := x5.1 + (1 : Int32)) (lv' := [(4, .int (x5.1 + (1 : Int32))), (0, .ref a_m), (1, .int u1)]) hx hb dX6_sheet_76 hl (k := 2) rfl rfl (by decide) rfl (fun ls hl => ?_)
            refine lv_goto (tgt := 56) hx hb dX6_sheet_79 (by decide) ?_
            exact hC6 _ (zs h) H locs ls hP hD hS (lv_sub hl [1, 2, 0] rfl)
        · have h := zif c13 h
          refine lv_bipush (v := (-14)) hx hb dX6_sheet_36 (by decide) ?_
          have hr := (zs h)
          subst hr
          exact hret H locs ls 38 hP hS dX6_sheet_38
      · have h := zif c14 h
        refine lv_iconst (v := (-1)) hx hb dX6_sheet_30 (by decide) ?_
        have hr := (zs h)
        subst hr
        exact hret H locs ls 31 hP hS dX6_sheet_31
theorem iw_X6_lay_X6 : ∀ w ∈ wsX60, w ∈ wsX6_lay := fun _ h => List.mem_cons_of_mem _ (List.mem_append_right _ h)
set_option maxHeartbeats 4000000 in
set_option maxRecDepth 100000 in
theorem c_X6_lay (l : Launch) (G : va_G) (k : Nat → ClassId) (tL tM : Nat) (sK sV : Nat → Nat) (a_m : Nat) (a_m_state : Nat) (a_m_readPage : Nat) (a_m_tape : Nat) (a_m_cuts : Nat) (a_m_letters : Nat) (a_m_seen : Nat) (a_m_pointBy : Nat) (a_m_isKept : Nat) (a_m_lanes : Nat) (a_m_lengths : Nat) (a_m_sheetCells : Nat) (sz : Nat) (m_toldOnce : Int32) (m_taped : Int32) (m_fault : Int32) (m_broken : Int32) (m_brokenAt : Int32) (m_spot : Int32) (m_here : Int32) (m_token : Int32) (m_value : Int32) (m_silent : Int32) (m_greatest : Int32) (m_moves : Int32) (m_holders : Int32) (m_seenMany : Int32) (m_torn : Int32) (m_lanes : Nat → Int32) (m_lengths : Nat → Int32) (m_sheetCells : Nat → Int32) (u1 : Int32) (u2 : Int32) (u3 : Int32) (out : Int32 × (Nat → Int32)) (h : p_X6_lay u1 u2 u3 m_lanes m_lengths m_sheetCells = some out) : zMi l yX6_lay wsX6_lay 1 25 G k tL tM sK sV [.ref a_m, .int u1, .int u2, .int u3] [(a_m, .inr (6, [.ref a_m_state, .ref a_m_readPage, .int m_toldOnce, .ref a_m_tape, .int m_taped, .int m_fault, .int m_broken, .int m_brokenAt, .int m_spot, .int m_here, .int m_token, .int m_value, .ref a_m_cuts, .ref a_m_letters, .int m_silent, .int m_greatest, .int m_moves, .int m_holders, .ref a_m_seen, .int m_seenMany, .ref a_m_pointBy, .ref a_m_isKept, .ref a_m_lanes, .ref a_m_lengths, .ref a_m_sheetCells, .int m_torn])), (a_m_lanes, .inl (k 0, 4, .inl m_lanes)), (a_m_lengths, .inl (k 0, 4, .inl m_lengths)), (a_m_sheetCells, .inl (k 0, 160, .inl m_sheetCells))] [(a_m, .inr (6, [.ref a_m_state, .ref a_m_readPage, .int m_toldOnce, .ref a_m_tape, .int m_taped, .int m_fault, .int m_broken, .int m_brokenAt, .int m_spot, .int m_here, .int m_token, .int m_value, .ref a_m_cuts, .ref a_m_letters, .int m_silent, .int m_greatest, .int m_moves, .int m_holders, .ref a_m_seen, .int m_seenMany, .ref a_m_pointBy, .ref a_m_isKept, .ref a_m_lanes, .ref a_m_lengths, .ref a_m_sheetCells, .int m_torn])), (a_m_lanes, .inl (k 0, 4, .inl m_lanes)), (a_m_lengths, .inl (k 0, 4, .inl m_lengths)), (a_m_sheetCells, .inl (k 0, 160, .inl out.2))] out.1 sz := by
  refine z_meti (cc := cX6_lay) (maxL := 4) (by decide) rfl (Nat.le_of_ble_eq_true rfl) ?_
  intro p e s m below meth c A Q H locs ls hx hb hml hts hown hA hK hE hret hP hD hS hl
  have hown : s.vm.findClass RX6 = some m.cls := hown
  have hl : lv_has ls 4 [(0, .ref a_m), (1, .int u1), (2, .int u2), (3, .int u3)] := hl
  unfold p_X6_lay at h
  refine lv_iload_n hx hb dX6_lay_0 rfl (lv_at hl 1 rfl) ?_
  refine lv_i2l (v := u1.toInt64) hx hb dX6_lay_1 rfl ?_
  refine lv_lconst (v := 0) hx hb dX6_lay_2 (by decide) ?_
  refine lv_ldc2 hx hb hown (hts (.constantLong RX6 156 (3)) (List.mem_of_getElem? (i := 1) rfl)) dX6_lay_3 ?_
  obtain ⟨o1, hv, h⟩ := zb h
  refine z_goi (w2 := [(a_m, .inr (6, [.ref a_m_state, .ref a_m_readPage, .int m_toldOnce, .ref a_m_tape, .int m_taped, .int m_fault, .int m_broken, .int m_brokenAt, .int m_spot, .int m_here, .int m_token, .int m_value, .ref a_m_cuts, .ref a_m_letters, .int m_silent, .int m_greatest, .int m_moves, .int m_holders, .ref a_m_seen, .int m_seenMany, .ref a_m_pointBy, .ref a_m_isKept, .ref a_m_lanes, .ref a_m_lengths, .ref a_m_sheetCells, .int m_torn])), (a_m_lanes, .inl (k 0, 4, .inl m_lanes)), (a_m_lengths, .inl (k 0, 4, .inl m_lengths)), (a_m_sheetCells, .inl (k 0, 160, .inl m_sheetCells))]) [] (va_runS (As := [.long u1.toInt64, .long (0 : Int64), .long (3 : Int64)]) (rest := []) ⟨hx, hb, hml, hown, hts⟩ (c_X6_in l G k tL tM sK sV H.size u1.toInt64 (0 : Int64) (3 : Int64) o1 hv) (va_cwS 3 hts gX6_lay_X6_in rfl rfl rfl (by decide +kernel) ⟨Nat.le_of_ble_eq_true rfl, Nat.le_of_ble_eq_true rfl⟩) (z_preS (wc := []) [] hK hE hA hP hD hS (by decide) rfl) rfl rfl hl.1 rfl (lv_room (Nat.le_of_ble_eq_true rfl)) dX6_lay_6 ⟨Nat.le_refl _, Nat.le_refl _⟩) hA hP hD hS rfl rfl rfl rfl (fun H locs hP hD hS => ?_)
  refine lv_if_ne (tgt := 14) hx hb dX6_lay_9 (by decide) (fun c14 => ?_) (fun c14 => ?_)
  · have h := zif c14 h
    refine lv_aload_n hx hb dX6_lay_14 rfl (lv_at hl 0 rfl) ?_
    refine va_get (D := G) (ci := 6) (v := .ref a_m_lanes) (C := RX6) (T := TX6) (N := 26) hx hb hts iw_X6_lay_X6 hown hK hP 0 rfl rfl 22 (by decide) (hts (.fieldLink RX6 39 "SpireLeanModel" "lanes" "[I") (List.mem_of_getElem? (i := 2) rfl)) (fun _ h9 => h9) rfl dX6_lay_15 ?_
    refine lv_iload_n hx hb dX6_lay_18 rfl (lv_at hl 1 rfl) ?_
    obtain ⟨v2, hv, h⟩ := zb h
    refine z_iald hx hb hK hP 1 0 rfl rfl hv dX6_lay_19 ?_
    refine lv_bipush (v := (-4)) hx hb dX6_lay_20 (by decide) ?_
    refine lv_icmp_ne (tgt := 28) hx hb dX6_lay_22 (by decide) (fun c13 => ?_) (fun c13 => ?_)
    · have h := zif c13 h
      refine lv_iload_n hx hb dX6_lay_28 rfl (lv_at hl 2 rfl) ?_
      refine lv_i2l (v := u2.toInt64) hx hb dX6_lay_29 rfl ?_
      refine lv_lconst (v := 0) hx hb dX6_lay_30 (by decide) ?_
      refine lv_aload_n hx hb dX6_lay_31 rfl (lv_at hl 0 rfl) ?_
      refine va_get (D := G) (ci := 6) (v := .ref a_m_lengths) (C := RX6) (T := TX6) (N := 26) hx hb hts iw_X6_lay_X6 hown hK hP 0 rfl rfl 23 (by decide) (hts (.fieldLink RX6 42 "SpireLeanModel" "lengths" "[I") (List.mem_of_getElem? (i := 3) rfl)) (fun _ h9 => h9) rfl dX6_lay_32 ?_
      refine lv_iload_n hx hb dX6_lay_35 rfl (lv_at hl 1 rfl) ?_
      obtain ⟨v3, hv, h⟩ := zb h
      refine z_iald hx hb hK hP 2 0 rfl rfl hv dX6_lay_36 ?_
      refine lv_iconst (v := 1) hx hb dX6_lay_37 (by decide) ?_
      refine lv_isub hx hb dX6_lay_38 ?_
      refine lv_i2l (v := (v3 - (1 : Int32)).toInt64) hx hb dX6_lay_39 rfl ?_
      obtain ⟨o4, hv, h⟩ := zb h
      refine z_goi (w2 := [(a_m, .inr (6, [.ref a_m_state, .ref a_m_readPage, .int m_toldOnce, .ref a_m_tape, .int m_taped, .int m_fault, .int m_broken, .int m_brokenAt, .int m_spot, .int m_here, .int m_token, .int m_value, .ref a_m_cuts, .ref a_m_letters, .int m_silent, .int m_greatest, .int m_moves, .int m_holders, .ref a_m_seen, .int m_seenMany, .ref a_m_pointBy, .ref a_m_isKept, .ref a_m_lanes, .ref a_m_lengths, .ref a_m_sheetCells, .int m_torn])), (a_m_lanes, .inl (k 0, 4, .inl m_lanes)), (a_m_lengths, .inl (k 0, 4, .inl m_lengths)), (a_m_sheetCells, .inl (k 0, 160, .inl m_sheetCells))]) [] (va_runS (As := [.long u2.toInt64, .long (0 : Int64), .long ((v3 - (1 : Int32)).toInt64)]) (rest := []) ⟨hx, hb, hml, hown, hts⟩ (c_X6_in l G k tL tM sK sV H.size u2.toInt64 (0 : Int64) ((v3 - (1 : Int32)).toInt64) o4 hv) (va_cwS 3 hts gX6_lay_X6_in rfl rfl rfl (by decide +kernel) ⟨Nat.le_of_ble_eq_true rfl, Nat.le_of_ble_eq_true rfl⟩) (z_preS (wc := []) [] hK hE hA hP hD hS (by decide) rfl) rfl rfl hl.1 rfl (lv_room (Nat.le_of_ble_eq_true rfl)) dX6_lay_40 ⟨Nat.le_refl _, Nat.le_refl _⟩) hA hP hD hS rfl rfl rfl rfl (fun H locs hP hD hS => ?_)
      refine lv_if_ne (tgt := 49) hx hb dX6_lay_43 (by decide) (fun c12 => ?_) (fun c12 => ?_)
      · have h := zif c12 h
        refine lv_aload_n hx hb dX6_lay_49 rfl (lv_at hl 0 rfl) ?_
        refine va_get (D := G) (ci := 6) (v := .ref a_m_sheetCells) (C := RX6) (T := TX6) (N := 26) hx hb hts iw_X6_lay_X6 hown hK hP 0 rfl rfl 24 (by decide) (hts (.fieldLink RX6 45 "SpireLeanModel" "sheetCells" "[I") (List.mem_of_getElem? (i := 4) rfl)) (fun _ h9 => h9) rfl dX6_lay_50 ?_
        refine lv_bipush (v := 40) hx hb dX6_lay_53 (by decide) ?_
        refine lv_iload_n hx hb dX6_lay_55 rfl (lv_at hl 1 rfl) ?_
        refine lv_imul hx hb dX6_lay_56 ?_
        refine lv_iload_n hx hb dX6_lay_57 rfl (lv_at hl 2 rfl) ?_
        refine lv_iadd hx hb dX6_lay_58 ?_
        refine lv_aload_n hx hb dX6_lay_59 rfl (lv_at hl 0 rfl) ?_
        refine va_get (D := G) (ci := 6) (v := .ref a_m_lanes) (C := RX6) (T := TX6) (N := 26) hx hb hts iw_X6_lay_X6 hown hK hP 0 rfl rfl 22 (by decide) (hts (.fieldLink RX6 39 "SpireLeanModel" "lanes" "[I") (List.mem_of_getElem? (i := 2) rfl)) (fun _ h9 => h9) rfl dX6_lay_60 ?_
        refine lv_iload_n hx hb dX6_lay_63 rfl (lv_at hl 1 rfl) ?_
        obtain ⟨v5, hv, h⟩ := zb h
        refine z_iald hx hb hK hP 1 0 rfl rfl hv dX6_lay_64 ?_
        refine lv_if_ne (tgt := 78) hx hb dX6_lay_65 (by decide) (fun c11 => ?_) (fun c11 => ?_)
        · have h := zif c11 h
          refine lv_aload_n hx hb dX6_lay_78 rfl (lv_at hl 0 rfl) ?_
          refine va_get (D := G) (ci := 6) (v := .ref a_m_lanes) (C := RX6) (T := TX6) (N := 26) hx hb hts iw_X6_lay_X6 hown hK hP 0 rfl rfl 22 (by decide) (hts (.fieldLink RX6 39 "SpireLeanModel" "lanes" "[I") (List.mem_of_getElem? (i := 2) rfl)) (fun _ h9 => h9) rfl dX6_lay_79 ?_
          refine lv_iload_n hx hb dX6_lay_82 rfl (lv_at hl 1 rfl) ?_
          obtain ⟨v6, hv, h⟩ := zb h
          refine z_iald hx hb hK hP 1 0 rfl rfl hv dX6_lay_83 ?_
          refine lv_iconst (v := 1) hx hb dX6_lay_84 (by decide) ?_
          refine lv_icmp_ne (tgt := 98) hx hb dX6_lay_85 (by decide) (fun c9 => ?_) (fun c9 => ?_)
          · have h := zif c9 h
            refine lv_iload_n hx hb dX6_lay_98 rfl (lv_at hl 3 rfl) ?_
            obtain ⟨v7, hv, h⟩ := zb h
            refine z_iast hx hb hK hP hD hS 3 0 rfl rfl hv dX6_lay_99 (fun H locs hP hD hS => ?_)
            have hP : va_P G vwCl [(a_m, .inr (6, [.ref a_m_state, .ref a_m_readPage, .int m_toldOnce, .ref a_m_tape, .int m_taped, .int m_fault, .int m_broken, .int m_brokenAt, .int m_spot, .int m_here, .int m_token, .int m_value, .ref a_m_cuts, .ref a_m_letters, .int m_silent, .int m_greatest, .int m_moves, .int m_holders, .ref a_m_seen, .int m_seenMany, .ref a_m_pointBy, .ref a_m_isKept, .ref a_m_lanes, .ref a_m_lengths, .ref a_m_sheetCells, .int m_torn])), (a_m_lanes, .inl (k 0, 4, .inl m_lanes)), (a_m_lengths, .inl (k 0, 4, .inl m_lengths)), (a_m_sheetCells, .inl (k 0, 160, .inl v7))] H := hP
            have hD : va_D A [(a_m, .inr (6, [.ref a_m_state, .ref a_m_readPage, .int m_toldOnce, .ref a_m_tape, .int m_taped, .int m_fault, .int m_broken, .int m_brokenAt, .int m_spot, .int m_here, .int m_token, .int m_value, .ref a_m_cuts, .ref a_m_letters, .int m_silent, .int m_greatest, .int m_moves, .int m_holders, .ref a_m_seen, .int m_seenMany, .ref a_m_pointBy, .ref a_m_isKept, .ref a_m_lanes, .ref a_m_lengths, .ref a_m_sheetCells, .int m_torn])), (a_m_lanes, .inl (k 0, 4, .inl m_lanes)), (a_m_lengths, .inl (k 0, 4, .inl m_lengths)), (a_m_sheetCells, .inl (k 0, 160, .inl v7))] := hD
            refine lv_iconst (v := 1) hx hb dX6_lay_100 (by decide) ?_
            have hr := (zs h)
            subst hr
            exact hret H locs ls 101 hP hS dX6_lay_101
          · have h := zit c9 h
            refine lv_iload_n hx hb dX6_lay_88 rfl (lv_at hl 3 rfl) ?_
            refine lv_bipush (v := 16) hx hb dX6_lay_89 (by decide) ?_
            refine lv_ishl hx hb dX6_lay_91 ?_
            refine lv_bipush (v := 16) hx hb dX6_lay_92 (by decide) ?_
            refine lv_ishr hx hb dX6_lay_94 ?_
            refine lv_goto (tgt := 99) hx hb dX6_lay_95 (by decide) ?_
            obtain ⟨v8, hv, h⟩ := zb h
            refine z_iast hx hb hK hP hD hS 3 0 rfl rfl hv dX6_lay_99 (fun H locs hP hD hS => ?_)
            have hP : va_P G vwCl [(a_m, .inr (6, [.ref a_m_state, .ref a_m_readPage, .int m_toldOnce, .ref a_m_tape, .int m_taped, .int m_fault, .int m_broken, .int m_brokenAt, .int m_spot, .int m_here, .int m_token, .int m_value, .ref a_m_cuts, .ref a_m_letters, .int m_silent, .int m_greatest, .int m_moves, .int m_holders, .ref a_m_seen, .int m_seenMany, .ref a_m_pointBy, .ref a_m_isKept, .ref a_m_lanes, .ref a_m_lengths, .ref a_m_sheetCells, .int m_torn])), (a_m_lanes, .inl (k 0, 4, .inl m_lanes)), (a_m_lengths, .inl (k 0, 4, .inl m_lengths)), (a_m_sheetCells, .inl (k 0, 160, .inl v8))] H := hP
            have hD : va_D A [(a_m, .inr (6, [.ref a_m_state, .ref a_m_readPage, .int m_toldOnce, .ref a_m_tape, .int m_taped, .int m_fault, .int m_broken, .int m_brokenAt, .int m_spot, .int m_here, .int m_token, .int m_value, .ref a_m_cuts, .ref a_m_letters, .int m_silent, .int m_greatest, .int m_moves, .int m_holders, .ref a_m_seen, .int m_seenMany, .ref a_m_pointBy, .ref a_m_isKept, .ref a_m_lanes, .ref a_m_lengths, .ref a_m_sheetCells, .int m_torn])), (a_m_lanes, .inl (k 0, 4, .inl m_lanes)), (a_m_lengths, .inl (k 0, 4, .inl m_lengths)), (a_m_sheetCells, .inl (k 0, 160, .inl v8))] := hD
            refine lv_iconst (v := 1) hx hb dX6_lay_100 (by decide) ?_
            have hr := (zs h)
            subst hr
            exact hret H locs ls 101 hP hS dX6_lay_101
        · have h := zit c11 h
          refine lv_iload_n hx hb dX6_lay_68 rfl (lv_at hl 3 rfl) ?_
          refine lv_bipush (v := 24) hx hb dX6_lay_69 (by decide) ?_
          refine lv_ishl hx hb dX6_lay_71 ?_
          refine lv_bipush (v := 24) hx hb dX6_lay_72 (by decide) ?_
          refine lv_ishr hx hb dX6_lay_74 ?_
          refine lv_goto (tgt := 99) hx hb dX6_lay_75 (by decide) ?_
          obtain ⟨v10, hv, h⟩ := zb h
          refine z_iast hx hb hK hP hD hS 3 0 rfl rfl hv dX6_lay_99 (fun H locs hP hD hS => ?_)
          have hP : va_P G vwCl [(a_m, .inr (6, [.ref a_m_state, .ref a_m_readPage, .int m_toldOnce, .ref a_m_tape, .int m_taped, .int m_fault, .int m_broken, .int m_brokenAt, .int m_spot, .int m_here, .int m_token, .int m_value, .ref a_m_cuts, .ref a_m_letters, .int m_silent, .int m_greatest, .int m_moves, .int m_holders, .ref a_m_seen, .int m_seenMany, .ref a_m_pointBy, .ref a_m_isKept, .ref a_m_lanes, .ref a_m_lengths, .ref a_m_sheetCells, .int m_torn])), (a_m_lanes, .inl (k 0, 4, .inl m_lanes)), (a_m_lengths, .inl (k 0, 4, .inl m_lengths)), (a_m_sheetCells, .inl (k 0, 160, .inl v10))] H := hP
          have hD : va_D A [(a_m, .inr (6, [.ref a_m_state, .ref a_m_readPage, .int m_toldOnce, .ref a_m_tape, .int m_taped, .int m_fault, .int m_broken, .int m_brokenAt, .int m_spot, .int m_here, .int m_token, .int m_value, .ref a_m_cuts, .ref a_m_letters, .int m_silent, .int m_greatest, .int m_moves, .int m_holders, .ref a_m_seen, .int m_seenMany, .ref a_m_pointBy, .ref a_m_isKept, .ref a_m_lanes, .ref a_m_lengths, .ref a_m_sheetCells, .int m_torn])), (a_m_lanes, .inl (k 0, 4, .inl m_lanes)), (a_m_lengths, .inl (k 0, 4, .inl m_lengths)), (a_m_sheetCells, .inl (k 0, 160, .inl v10))] := hD
          refine lv_iconst (v := 1) hx hb dX6_lay_100 (by decide) ?_
          have hr := (zs h)
          subst hr
          exact hret H locs ls 101 hP hS dX6_lay_101
      · have h := zit c12 h
        refine lv_bipush (v := (-12)) hx hb dX6_lay_46 (by decide) ?_
        have hr := (zs h)
        subst hr
        exact hret H locs ls 48 hP hS dX6_lay_48
    · have h := zit c13 h
      refine lv_bipush (v := (-11)) hx hb dX6_lay_25 (by decide) ?_
      have hr := (zs h)
      subst hr
      exact hret H locs ls 27 hP hS dX6_lay_27
  · have h := zit c14 h
    refine lv_iconst (v := (-1)) hx hb dX6_lay_12 (by decide) ?_
    have hr := (zs h)
    subst hr
    exact hret H locs ls 13 hP hS dX6_lay_13
theorem iw_X6_read_X6 : ∀ w ∈ wsX60, w ∈ wsX6_read := fun _ h => List.mem_cons_of_mem _ (List.mem_append_right _ h)
set_option maxHeartbeats 4000000 in
set_option maxRecDepth 100000 in
theorem c_X6_read (l : Launch) (G : va_G) (k : Nat → ClassId) (tL tM : Nat) (sK sV : Nat → Nat) (a_m : Nat) (a_m_state : Nat) (a_m_readPage : Nat) (a_m_tape : Nat) (a_m_cuts : Nat) (a_m_letters : Nat) (a_m_seen : Nat) (a_m_pointBy : Nat) (a_m_isKept : Nat) (a_m_lanes : Nat) (a_m_lengths : Nat) (a_m_sheetCells : Nat) (sz : Nat) (m_toldOnce : Int32) (m_taped : Int32) (m_fault : Int32) (m_broken : Int32) (m_brokenAt : Int32) (m_spot : Int32) (m_here : Int32) (m_token : Int32) (m_value : Int32) (m_silent : Int32) (m_greatest : Int32) (m_moves : Int32) (m_holders : Int32) (m_seenMany : Int32) (m_torn : Int32) (m_state : Nat → Int32) (m_lanes : Nat → Int32) (m_lengths : Nat → Int32) (m_sheetCells : Nat → Int32) (u1 : Int32) (u2 : Int32) (u3 : Int32) (u4 : Int32) (out : Int32 × Int32 × (Nat → Int32)) (h : p_X6_read u1 u2 u3 u4 m_silent m_torn m_state m_lanes m_lengths m_sheetCells = some out) : zMi l yX6_read wsX6_read 6 131 G k tL tM sK sV [.ref a_m, .int u1, .int u2, .int u3, .int u4] [(a_m, .inr (6, [.ref a_m_state, .ref a_m_readPage, .int m_toldOnce, .ref a_m_tape, .int m_taped, .int m_fault, .int m_broken, .int m_brokenAt, .int m_spot, .int m_here, .int m_token, .int m_value, .ref a_m_cuts, .ref a_m_letters, .int m_silent, .int m_greatest, .int m_moves, .int m_holders, .ref a_m_seen, .int m_seenMany, .ref a_m_pointBy, .ref a_m_isKept, .ref a_m_lanes, .ref a_m_lengths, .ref a_m_sheetCells, .int m_torn])), (a_m_state, .inl (k 0, 156, .inl m_state)), (a_m_lanes, .inl (k 0, 4, .inl m_lanes)), (a_m_lengths, .inl (k 0, 4, .inl m_lengths)), (a_m_sheetCells, .inl (k 0, 160, .inl m_sheetCells))] [(a_m, .inr (6, [.ref a_m_state, .ref a_m_readPage, .int m_toldOnce, .ref a_m_tape, .int m_taped, .int m_fault, .int m_broken, .int m_brokenAt, .int m_spot, .int m_here, .int m_token, .int m_value, .ref a_m_cuts, .ref a_m_letters, .int m_silent, .int m_greatest, .int m_moves, .int m_holders, .ref a_m_seen, .int m_seenMany, .ref a_m_pointBy, .ref a_m_isKept, .ref a_m_lanes, .ref a_m_lengths, .ref a_m_sheetCells, .int out.2.1])), (a_m_state, .inl (k 0, 156, .inl out.2.2)), (a_m_lanes, .inl (k 0, 4, .inl m_lanes)), (a_m_lengths, .inl (k 0, 4, .inl m_lengths)), (a_m_sheetCells, .inl (k 0, 160, .inl m_sheetCells))] out.1 sz := by
  refine z_meti (cc := cX6_read) (maxL := 9) (by decide) rfl (Nat.le_of_ble_eq_true rfl) ?_
  intro p e s m below meth c A Q H locs ls hx hb hml hts hown hA hK hE hret hP hD hS hl
  have hown : s.vm.findClass RX6 = some m.cls := hown
  have hl : lv_has ls 9 [(0, .ref a_m), (1, .int u1), (2, .int u2), (3, .int u3), (4, .int u4)] := hl
  unfold p_X6_read at h
  refine lv_iload_n hx hb dX6_read_0 rfl (lv_at hl 1 rfl) ?_
  refine lv_i2l (v := u1.toInt64) hx hb dX6_read_1 rfl ?_
  refine lv_lconst (v := 0) hx hb dX6_read_2 (by decide) ?_
  refine lv_ldc2 hx hb hown (hts (.constantLong RX6 156 (3)) (List.mem_of_getElem? (i := 1) rfl)) dX6_read_3 ?_
  obtain ⟨o1, hv, h⟩ := zb h
  refine z_goi (w2 := [(a_m, .inr (6, [.ref a_m_state, .ref a_m_readPage, .int m_toldOnce, .ref a_m_tape, .int m_taped, .int m_fault, .int m_broken, .int m_brokenAt, .int m_spot, .int m_here, .int m_token, .int m_value, .ref a_m_cuts, .ref a_m_letters, .int m_silent, .int m_greatest, .int m_moves, .int m_holders, .ref a_m_seen, .int m_seenMany, .ref a_m_pointBy, .ref a_m_isKept, .ref a_m_lanes, .ref a_m_lengths, .ref a_m_sheetCells, .int m_torn])), (a_m_state, .inl (k 0, 156, .inl m_state)), (a_m_lanes, .inl (k 0, 4, .inl m_lanes)), (a_m_lengths, .inl (k 0, 4, .inl m_lengths)), (a_m_sheetCells, .inl (k 0, 160, .inl m_sheetCells))]) [] (va_runS (As := [.long u1.toInt64, .long (0 : Int64), .long (3 : Int64)]) (rest := []) ⟨hx, hb, hml, hown, hts⟩ (c_X6_in l G k tL tM sK sV H.size u1.toInt64 (0 : Int64) (3 : Int64) o1 hv) (va_cwS 3 hts gX6_read_X6_in rfl rfl rfl (by decide +kernel) ⟨Nat.le_of_ble_eq_true rfl, Nat.le_of_ble_eq_true rfl⟩) (z_preS (wc := []) [] hK hE hA hP hD hS (by decide) rfl) rfl rfl hl.1 rfl (lv_room (Nat.le_of_ble_eq_true rfl)) dX6_read_6 ⟨Nat.le_refl _, Nat.le_refl _⟩) hA hP hD hS rfl rfl rfl rfl (fun H locs hP hD hS => ?_)
  refine lv_if_eq (tgt := 37) hx hb dX6_read_9 (by decide) (fun c40 => ?_) (fun c40 => ?_)
  · have h := zit c40 h
    refine lv_iconst (v := (-1)) hx hb dX6_read_37 (by decide) ?_
    have hr := (zs h)
    subst hr
    exact hret H locs ls 38 hP hS dX6_read_38
  · have h := zif c40 h
    refine lv_iload_n hx hb dX6_read_12 rfl (lv_at hl 2 rfl) ?_
    refine lv_i2l (v := u2.toInt64) hx hb dX6_read_13 rfl ?_
    refine lv_lconst (v := 0) hx hb dX6_read_14 (by decide) ?_
    refine lv_ldc2 hx hb hown (hts (.constantLong RX6 235 (2)) (List.mem_of_getElem? (i := 2) rfl)) dX6_read_15 ?_
    obtain ⟨o2, hv, h⟩ := zb h
    refine z_goi (w2 := [(a_m, .inr (6, [.ref a_m_state, .ref a_m_readPage, .int m_toldOnce, .ref a_m_tape, .int m_taped, .int m_fault, .int m_broken, .int m_brokenAt, .int m_spot, .int m_here, .int m_token, .int m_value, .ref a_m_cuts, .ref a_m_letters, .int m_silent, .int m_greatest, .int m_moves, .int m_holders, .ref a_m_seen, .int m_seenMany, .ref a_m_pointBy, .ref a_m_isKept, .ref a_m_lanes, .ref a_m_lengths, .ref a_m_sheetCells, .int m_torn])), (a_m_state, .inl (k 0, 156, .inl m_state)), (a_m_lanes, .inl (k 0, 4, .inl m_lanes)), (a_m_lengths, .inl (k 0, 4, .inl m_lengths)), (a_m_sheetCells, .inl (k 0, 160, .inl m_sheetCells))]) [] (va_runS (As := [.long u2.toInt64, .long (0 : Int64), .long (2 : Int64)]) (rest := []) ⟨hx, hb, hml, hown, hts⟩ (c_X6_in l G k tL tM sK sV H.size u2.toInt64 (0 : Int64) (2 : Int64) o2 hv) (va_cwS 3 hts gX6_read_X6_in rfl rfl rfl (by decide +kernel) ⟨Nat.le_of_ble_eq_true rfl, Nat.le_of_ble_eq_true rfl⟩) (z_preS (wc := []) [] hK hE hA hP hD hS (by decide) rfl) rfl rfl hl.1 rfl (lv_room (Nat.le_of_ble_eq_true rfl)) dX6_read_18 ⟨Nat.le_refl _, Nat.le_refl _⟩) hA hP hD hS rfl rfl rfl rfl (fun H locs hP hD hS => ?_)
    refine lv_if_eq (tgt := 37) hx hb dX6_read_21 (by decide) (fun c39 => ?_) (fun c39 => ?_)
    · have h := zit c39 h
      refine lv_iconst (v := (-1)) hx hb dX6_read_37 (by decide) ?_
      have hr := (zs h)
      subst hr
      exact hret H locs ls 38 hP hS dX6_read_38
    · have h := zif c39 h
      refine lv_iload hx hb dX6_read_24 (lv_at hl 4 rfl) ?_
      refine lv_i2l (v := u4.toInt64) hx hb dX6_read_26 rfl ?_
      refine lv_lconst (v := 0) hx hb dX6_read_27 (by decide) ?_
      refine lv_ldc2 hx hb hown (hts (.constantLong RX6 158 (20)) (List.mem_of_getElem? (i := 3) rfl)) dX6_read_28 ?_
      obtain ⟨o3, hv, h⟩ := zb h
      refine z_goi (w2 := [(a_m, .inr (6, [.ref a_m_state, .ref a_m_readPage, .int m_toldOnce, .ref a_m_tape, .int m_taped, .int m_fault, .int m_broken, .int m_brokenAt, .int m_spot, .int m_here, .int m_token, .int m_value, .ref a_m_cuts, .ref a_m_letters, .int m_silent, .int m_greatest, .int m_moves, .int m_holders, .ref a_m_seen, .int m_seenMany, .ref a_m_pointBy, .ref a_m_isKept, .ref a_m_lanes, .ref a_m_lengths, .ref a_m_sheetCells, .int m_torn])), (a_m_state, .inl (k 0, 156, .inl m_state)), (a_m_lanes, .inl (k 0, 4, .inl m_lanes)), (a_m_lengths, .inl (k 0, 4, .inl m_lengths)), (a_m_sheetCells, .inl (k 0, 160, .inl m_sheetCells))]) [] (va_runS (As := [.long u4.toInt64, .long (0 : Int64), .long (20 : Int64)]) (rest := []) ⟨hx, hb, hml, hown, hts⟩ (c_X6_in l G k tL tM sK sV H.size u4.toInt64 (0 : Int64) (20 : Int64) o3 hv) (va_cwS 3 hts gX6_read_X6_in rfl rfl rfl (by decide +kernel) ⟨Nat.le_of_ble_eq_true rfl, Nat.le_of_ble_eq_true rfl⟩) (z_preS (wc := []) [] hK hE hA hP hD hS (by decide) rfl) rfl rfl hl.1 rfl (lv_room (Nat.le_of_ble_eq_true rfl)) dX6_read_31 ⟨Nat.le_refl _, Nat.le_refl _⟩) hA hP hD hS rfl rfl rfl rfl (fun H locs hP hD hS => ?_)
      refine lv_if_ne (tgt := 39) hx hb dX6_read_34 (by decide) (fun c38 => ?_) (fun c38 => ?_)
      · have h := zif c38 h
        refine lv_aload_n hx hb dX6_read_39 rfl (lv_at hl 0 rfl) ?_
        refine lv_iconst (v := 0) hx hb dX6_read_40 (by decide) ?_
        refine lv_bipush (v := 78) hx hb dX6_read_41 (by decide) ?_
        obtain ⟨o4, hv, h⟩ := zb h
        refine z_gov (w2 := [(a_m, .inr (6, [.ref a_m_state, .ref a_m_readPage, .int m_toldOnce, .ref a_m_tape, .int m_taped, .int m_fault, .int m_broken, .int m_brokenAt, .int m_spot, .int m_here, .int m_token, .int m_value, .ref a_m_cuts, .ref a_m_letters, .int m_silent, .int m_greatest, .int m_moves, .int m_holders, .ref a_m_seen, .int m_seenMany, .ref a_m_pointBy, .ref a_m_isKept, .ref a_m_lanes, .ref a_m_lengths, .ref a_m_sheetCells, .int m_torn])), (a_m_state, .inl (k 0, 156, .inl o4)), (a_m_lanes, .inl (k 0, 4, .inl m_lanes)), (a_m_lengths, .inl (k 0, 4, .inl m_lengths)), (a_m_sheetCells, .inl (k 0, 160, .inl m_sheetCells))]) [0, 1] (va_runV (As := [.int (0 : Int32), .int (78 : Int32)]) (rest := []) ⟨hx, hb, hml, hown, hts⟩ (c_X6_copies l G k tL tM sK sV a_m a_m_state a_m_readPage a_m_tape a_m_cuts a_m_letters a_m_seen a_m_pointBy a_m_isKept a_m_lanes a_m_lengths a_m_sheetCells H.size m_toldOnce m_taped m_fault m_broken m_brokenAt m_spot m_here m_token m_value m_silent m_greatest m_moves m_holders m_seenMany m_torn m_state (0 : Int32) (78 : Int32) o4 hv) (cwV 2 hts gX6_read_X6_copies rfl rfl rfl (by decide +kernel) ⟨Nat.le_of_ble_eq_true rfl, Nat.le_of_ble_eq_true rfl⟩) (z_preV (wc := [(a_m, .inr (6, [.ref a_m_state, .ref a_m_readPage, .int m_toldOnce, .ref a_m_tape, .int m_taped, .int m_fault, .int m_broken, .int m_brokenAt, .int m_spot, .int m_here, .int m_token, .int m_value, .ref a_m_cuts, .ref a_m_letters, .int m_silent, .int m_greatest, .int m_moves, .int m_holders, .ref a_m_seen, .int m_seenMany, .ref a_m_pointBy, .ref a_m_isKept, .ref a_m_lanes, .ref a_m_lengths, .ref a_m_sheetCells, .int m_torn])), (a_m_state, .inl (k 0, 156, .inl m_state))]) [0, 1] 0 6 hK hE hA hP hD hS (by decide) rfl rfl rfl) rfl rfl hl.1 rfl (lv_room (Nat.le_of_ble_eq_true rfl)) dX6_read_43 ⟨Nat.le_refl _, Nat.le_refl _⟩) hA hP hD hS rfl rfl rfl rfl (fun H locs hP hD hS => ?_)
        refine lv_iconst (v := 0) hx hb dX6_read_46 (by decide) ?_
        refine lv_istore (lv' := [(5, .int (0 : Int32)), (0, .ref a_m), (1, .int u1), (2, .int u2), (3, .int u3), (4, .int u4)]) hx hb dX6_read_47 hl (by decide) rfl (fun ls hl => ?_)
        refine lv_iconst (v := 0) hx hb dX6_read_49 (by decide) ?_
        refine lv_istore (lv' := [(6, .int (0 : Int32)), (5, .int (0 : Int32)), (0, .ref a_m), (1, .int u1), (2, .int u2), (3, .int u3), (4, .int u4)]) hx hb dX6_read_50 hl (by decide) rfl (fun ls hl => ?_)
        refine lv_iconst (v := 0) hx hb dX6_read_52 (by decide) ?_
        refine lv_istore (lv' := [(7, .int (0 : Int32)), (6, .int (0 : Int32)), (5, .int (0 : Int32)), (0, .ref a_m), (1, .int u1), (2, .int u2), (3, .int u3), (4, .int u4)]) hx hb dX6_read_53 hl (by decide) rfl (fun ls hl => ?_)
        obtain ⟨e10, hv, h⟩ := zb h
        have hJ8 : ∀ (x : Int32 × Int32 × (Nat → Int32)), .inl x = e10 → x = out := fun x hz => (zs (zpeel_0_2 hz h))
        have hJ9 : ∀ (v11 : Int32 × Int32 × (Nat → Int32)), .inr v11 = e10 → zW p l e (zR 6 131) s m ([.ref a_m, .int u1, .int u2, .int u3, .int u4] : List Value).toArray below meth c Q 9 A G [(a_m, .inr (6, [.ref a_m_state, .ref a_m_readPage, .int m_toldOnce, .ref a_m_tape, .int m_taped, .int m_fault, .int m_broken, .int m_brokenAt, .int m_spot, .int m_here, .int m_token, .int m_value, .ref a_m_cuts, .ref a_m_letters, .int m_silent, .int m_greatest, .int m_moves, .int m_holders, .ref a_m_seen, .int m_seenMany, .ref a_m_pointBy, .ref a_m_isKept, .ref a_m_lanes, .ref a_m_lengths, .ref a_m_sheetCells, .int m_torn])), (a_m_state, .inl (k 0, 156, .inl v11.2.2)), (a_m_lanes, .inl (k 0, 4, .inl m_lanes)), (a_m_lengths, .inl (k 0, 4, .inl m_lengths)), (a_m_sheetCells, .inl (k 0, 160, .inl m_sheetCells))] [(0, .ref a_m), (5, .int v11.1), (6, .int v11.2.1)] 215 [] := by
          intro v11 hz
          have h := (zpeel_1_2 hz h)
          intro H locs ls hP hD hS hl
          refine lv_aload_n hx hb dX6_read_215 rfl (lv_at hl 0 rfl) ?_
          refine lv_iload hx hb dX6_read_216 (lv_at hl 1 rfl) ?_
          refine va_put (D := G) (ci := 6) (v := .int v11.1) (ty := .int) (C := RX6) (T := TX6) (N := 26) hx hb hts iw_X6_read_X6 tyX6 tyX6_ok nmX6 hown hK hP hD hS 0 rfl rfl 25 (by decide) (hts (.fieldLink RX6 237 "SpireLeanModel" "torn" "I") (List.mem_of_getElem? (i := 8) rfl)) (fun _ h9 => h9) rfl (tyX6_ok 25 (by decide)) rfl rfl (Nat.le_of_ble_eq_true rfl) dX6_read_218 (fun H locs hP hD hS => ?_)
          have hP : va_P G vwCl [(a_m, .inr (6, [.ref a_m_state, .ref a_m_readPage, .int m_toldOnce, .ref a_m_tape, .int m_taped, .int m_fault, .int m_broken, .int m_brokenAt, .int m_spot, .int m_here, .int m_token, .int m_value, .ref a_m_cuts, .ref a_m_letters, .int m_silent, .int m_greatest, .int m_moves, .int m_holders, .ref a_m_seen, .int m_seenMany, .ref a_m_pointBy, .ref a_m_isKept, .ref a_m_lanes, .ref a_m_lengths, .ref a_m_sheetCells, .int v11.1])), (a_m_state, .inl (k 0, 156, .inl v11.2.2)), (a_m_lanes, .inl (k 0, 4, .inl m_lanes)), (a_m_lengths, .inl (k 0, 4, .inl m_lengths)), (a_m_sheetCells, .inl (k 0, 160, .inl m_sheetCells))] H := hP
          have hD : va_D A [(a_m, .inr (6, [.ref a_m_state, .ref a_m_readPage, .int m_toldOnce, .ref a_m_tape, .int m_taped, .int m_fault, .int m_broken, .int m_brokenAt, .int m_spot, .int m_here, .int m_token, .int m_value, .ref a_m_cuts, .ref a_m_letters, .int m_silent, .int m_greatest, .int m_moves, .int m_holders, .ref a_m_seen, .int m_seenMany, .ref a_m_pointBy, .ref a_m_isKept, .ref a_m_lanes, .ref a_m_lengths, .ref a_m_sheetCells, .int v11.1])), (a_m_state, .inl (k 0, 156, .inl v11.2.2)), (a_m_lanes, .inl (k 0, 4, .inl m_lanes)), (a_m_lengths, .inl (k 0, 4, .inl m_lengths)), (a_m_sheetCells, .inl (k 0, 160, .inl m_sheetCells))] := hD
          refine lv_iload hx hb dX6_read_221 (lv_at hl 2 rfl) ?_
          have hr := (zs h)
          subst hr
          exact hret H locs ls 223 hP hS dX6_read_223
        refine z_lpW (Wh := fun (x5 : Int32 × Int32 × Int32 × (Nat → Int32)) => zW p l e (zR 6 131) s m ([.ref a_m, .int u1, .int u2, .int u3, .int u4] : List Value).toArray below meth c Q 9 A G [(a_m, .inr (6, [.ref a_m_state, .ref a_m_readPage, .int m_toldOnce, .ref a_m_tape, .int m_taped, .int m_fault, .int m_broken, .int m_brokenAt, .int m_spot, .int m_here, .int m_token, .int m_value, .ref a_m_cuts, .ref a_m_letters, .int m_silent, .int m_greatest, .int m_moves, .int m_holders, .ref a_m_seen, .int m_seenMany, .ref a_m_pointBy, .ref a_m_isKept, .ref a_m_lanes, .ref a_m_lengths, .ref a_m_sheetCells, .int m_torn])), (a_m_state, .inl (k 0, 156, .inl x5.2.2.2)), (a_m_lanes, .inl (k 0, 4, .inl m_lanes)), (a_m_lengths, .inl (k 0, 4, .inl m_lengths)), (a_m_sheetCells, .inl (k 0, 160, .inl m_sheetCells))] [(0, .ref a_m), (1, .int u1), (2, .int u2), (3, .int u3), (4, .int u4), (5, .int x5.1), (6, .int x5.2.1), (7, .int x5.2.2.1)] 55 []) ?_ 1000 _ hv H locs ls hP hD hS (lv_sub hl [3, 4, 5, 6, 7, 2, 1, 0] rfl)
        clear h
        intro x5 o h hC6 hX7 H locs ls hP hD hS hl
        unfold p_X6_read_b55 at h
        refine lv_iload hx hb dX6_read_55 (lv_at hl 7 rfl) ?_
        refine lv_iconst (v := 2) hx hb dX6_read_57 (by decide) ?_
        refine lv_iload hx hb dX6_read_58 (lv_at hl 4 rfl) ?_
        refine lv_imul hx hb dX6_read_60 ?_
        refine lv_icmp_ge (tgt := 215) hx hb dX6_read_61 (by decide) (fun c37 => ?_) (fun c37 => ?_)
        · have h := zit c37 h
          exact hJ9 _ (hX7 _ (zs h)) H locs ls hP hD hS (lv_sub hl [0, 5, 6] rfl)
        · have h := zif c37 h
          refine lv_iload hx hb dX6_read_64 (lv_at hl 5 rfl) ?_
          refine lv_if_ne (tgt := 215) hx hb dX6_read_66 (by decide) (fun c36 => ?_) (fun c36 => ?_)
          · have h := zif c36 h
            exact hJ9 _ (hX7 _ (zs h)) H locs ls hP hD hS (lv_sub hl [0, 5, 6] rfl)
          · have h := zit c36 h
            refine lv_aload_n hx hb dX6_read_69 rfl (lv_at hl 0 rfl) ?_
            refine va_get (D := G) (ci := 6) (v := .ref a_m_lanes) (C := RX6) (T := TX6) (N := 26) hx hb hts iw_X6_read_X6 hown hK hP 0 rfl rfl 22 (by decide) (hts (.fieldLink RX6 39 "SpireLeanModel" "lanes" "[I") (List.mem_of_getElem? (i := 4) rfl)) (fun _ h9 => h9) rfl dX6_read_70 ?_
            refine lv_iload_n hx hb dX6_read_73 rfl (lv_at hl 1 rfl) ?_
            obtain ⟨v12, hv, h⟩ := zb h
            refine z_iald hx hb hK hP 2 0 rfl rfl hv dX6_read_74 ?_
            refine lv_bipush (v := (-4)) hx hb dX6_read_75 (by decide) ?_
            obtain ⟨e13, hv, h⟩ := zb h
            have hJ14 : ∀ (e13_ : Int32), e13_ = e13 → zW p l e (zR 6 131) s m ([.ref a_m, .int u1, .int u2, .int u3, .int u4] : List Value).toArray below meth c Q 9 A G [(a_m, .inr (6, [.ref a_m_state, .ref a_m_readPage, .int m_toldOnce, .ref a_m_tape, .int m_taped, .int m_fault, .int m_broken, .int m_brokenAt, .int m_spot, .int m_here, .int m_token, .int m_value, .ref a_m_cuts, .ref a_m_letters, .int m_silent, .int m_greatest, .int m_moves, .int m_holders, .ref a_m_seen, .int m_seenMany, .ref a_m_pointBy, .ref a_m_isKept, .ref a_m_lanes, .ref a_m_lengths, .ref a_m_sheetCells, .int m_torn])), (a_m_state, .inl (k 0, 156, .inl x5.2.2.2)), (a_m_lanes, .inl (k 0, 4, .inl m_lanes)), (a_m_lengths, .inl (k 0, 4, .inl m_lengths)), (a_m_sheetCells, .inl (k 0, 160, .inl m_sheetCells))] [(0, .ref a_m), (1, .int u1), (2, .int u2), (3, .int u3), (4, .int u4), (6, .int x5.2.1), (7, .int x5.2.2.1)] 125 [.int e13_] := by
              intro e13_ hz
              subst hz
              intro H locs ls hP hD hS hl
              refine lv_istore (lv' := [(5, .int e13_), (0, .ref a_m), (1, .int u1), (2, .int u2), (3, .int u3), (4, .int u4), (6, .int x5.2.1), (7, .int x5.2.2.1)]) hx hb dX6_read_125 hl (by decide) rfl (fun ls hl => ?_)
              refine lv_iload hx hb dX6_read_127 (lv_at hl 0 rfl) ?_
              refine lv_if_ne (tgt := 209) hx hb dX6_read_129 (by decide) (fun c35 => ?_) (fun c35 => ?_)
              · have h := zif c35 h
                refine lv_iinc (v := x5.2.2.1 + (1 : Int32)) (lv' := [(7, .int (x5.2.2.1 + (1 : Int32))), (5, .int e13_), (0, .ref a_m), (1, .int u1), (2, .int u2), (3, .int u3), (4, .int u4), (6, .int x5.2.1)]) hx hb dX6_read_209 hl (k := 7) rfl rfl (by decide) rfl (fun ls hl => ?_)
                refine lv_goto (tgt := 55) hx hb dX6_read_212 (by decide) ?_
                exact hC6 _ (zs h) H locs ls hP hD hS (lv_sub hl [2, 3, 4, 5, 6, 1, 7, 0] rfl)
              · have h := zit c35 h
                refine lv_iload hx hb dX6_read_132 (lv_at hl 7 rfl) ?_
                refine lv_iconst (v := 2) hx hb dX6_read_134 (by decide) ?_
                refine lv_irem hx hb dX6_read_135 (by decide) ?_
                refine lv_iconst (v := 1) hx hb dX6_read_136 (by decide) ?_
                refine lv_icmp_ne (tgt := 209) hx hb dX6_read_137 (by decide) (fun c34 => ?_) (fun c34 => ?_)
                · have h := zif c34 h
                  refine lv_iinc (v := x5.2.2.1 + (1 : Int32)) (lv' := [(7, .int (x5.2.2.1 + (1 : Int32))), (5, .int e13_), (0, .ref a_m), (1, .int u1), (2, .int u2), (3, .int u3), (4, .int u4), (6, .int x5.2.1)]) hx hb dX6_read_209 hl (k := 7) rfl rfl (by decide) rfl (fun ls hl => ?_)
                  refine lv_goto (tgt := 55) hx hb dX6_read_212 (by decide) ?_
                  exact hC6 _ (zs h) H locs ls hP hD hS (lv_sub hl [2, 3, 4, 5, 6, 1, 7, 0] rfl)
                · have h := zit c34 h
                  refine lv_bipush (v := 40) hx hb dX6_read_140 (by decide) ?_
                  refine lv_iload_n hx hb dX6_read_142 rfl (lv_at hl 2 rfl) ?_
                  refine lv_imul hx hb dX6_read_143 ?_
                  refine lv_iload_n hx hb dX6_read_144 rfl (lv_at hl 4 rfl) ?_
                  refine lv_iadd hx hb dX6_read_145 ?_
                  refine lv_iload hx hb dX6_read_146 (lv_at hl 7 rfl) ?_
                  refine lv_iadd hx hb dX6_read_148 ?_
                  refine lv_istore (lv' := [(8, .int ((((40 : Int32) * u1) + u3) + x5.2.2.1)), (5, .int e13_), (0, .ref a_m), (1, .int u1), (2, .int u2), (3, .int u3), (4, .int u4), (6, .int x5.2.1), (7, .int x5.2.2.1)]) hx hb dX6_read_149 hl (by decide) rfl (fun ls hl => ?_)
                  refine lv_aload_n hx hb dX6_read_151 rfl (lv_at hl 2 rfl) ?_
                  refine va_get (D := G) (ci := 6) (v := .ref a_m_state) (C := RX6) (T := TX6) (N := 26) hx hb hts iw_X6_read_X6 hown hK hP 0 rfl rfl 0 (by decide) (hts (.fieldLink RX6 7 "SpireLeanModel" "state" "[I") (List.mem_of_getElem? (i := 6) rfl)) (fun _ h9 => h9) rfl dX6_read_152 ?_
                  refine lv_bipush (v := 25) hx hb dX6_read_155 (by decide) ?_
                  obtain ⟨v22, hv, h⟩ := zb h
                  refine z_iald hx hb hK hP 1 0 rfl rfl hv dX6_read_157 ?_
                  refine lv_sipush (v := 999) hx hb dX6_read_158 (by decide) ?_
                  obtain ⟨e23, hv, h⟩ := zb h
                  have hJ24 : ∀ (x : Int32 × Int32 × Int32 × (Nat → Int32)), .inl x = e23 → zW p l e (zR 6 131) s m ([.ref a_m, .int u1, .int u2, .int u3, .int u4] : List Value).toArray below meth c Q 9 A G [(a_m, .inr (6, [.ref a_m_state, .ref a_m_readPage, .int m_toldOnce, .ref a_m_tape, .int m_taped, .int m_fault, .int m_broken, .int m_brokenAt, .int m_spot, .int m_here, .int m_token, .int m_value, .ref a_m_cuts, .ref a_m_letters, .int m_silent, .int m_greatest, .int m_moves, .int m_holders, .ref a_m_seen, .int m_seenMany, .ref a_m_pointBy, .ref a_m_isKept, .ref a_m_lanes, .ref a_m_lengths, .ref a_m_sheetCells, .int m_torn])), (a_m_state, .inl (k 0, 156, .inl x.2.2.2)), (a_m_lanes, .inl (k 0, 4, .inl m_lanes)), (a_m_lengths, .inl (k 0, 4, .inl m_lengths)), (a_m_sheetCells, .inl (k 0, 160, .inl m_sheetCells))] [(0, .ref a_m), (1, .int u1), (2, .int u2), (3, .int u3), (4, .int u4), (5, .int x.1), (6, .int x.2.1), (7, .int x.2.2.1)] 55 [] := by intro x hz; have hq := (zpeel_0_2 hz h); exact hC6 _ (zs hq)
                  have hJ25 : ∀ (v26 : Int32 × (Nat → Int32)), .inr v26 = e23 → zW p l e (zR 6 131) s m ([.ref a_m, .int u1, .int u2, .int u3, .int u4] : List Value).toArray below meth c Q 9 A G [(a_m, .inr (6, [.ref a_m_state, .ref a_m_readPage, .int m_toldOnce, .ref a_m_tape, .int m_taped, .int m_fault, .int m_broken, .int m_brokenAt, .int m_spot, .int m_here, .int m_token, .int m_value, .ref a_m_cuts, .ref a_m_letters, .int m_silent, .int m_greatest, .int m_moves, .int m_holders, .ref a_m_seen, .int m_seenMany, .ref a_m_pointBy, .ref a_m_isKept, .ref a_m_lanes, .ref a_m_lengths, .ref a_m_sheetCells, .int m_torn])), (a_m_state, .inl (k 0, 156, .inl v26.2)), (a_m_lanes, .inl (k 0, 4, .inl m_lanes)), (a_m_lengths, .inl (k 0, 4, .inl m_lengths)), (a_m_sheetCells, .inl (k 0, 160, .inl m_sheetCells))] [(0, .ref a_m), (6, .int v26.1)] 188 [] := by
                    intro v26 hz
                    have h := (zpeel_1_2 hz h)
                    intro H locs ls hP hD hS hl
                    refine lv_aload_n hx hb dX6_read_188 rfl (lv_at hl 0 rfl) ?_
                    refine lv_bipush (v := 78) hx hb dX6_read_189 (by decide) ?_
                    refine lv_iconst (v := 0) hx hb dX6_read_191 (by decide) ?_
                    obtain ⟨o33, hv, h⟩ := zb h
                    refine z_gov (w2 := [(a_m, .inr (6, [.ref a_m_state, .ref a_m_readPage, .int m_toldOnce, .ref a_m_tape, .int m_taped, .int m_fault, .int m_broken, .int m_brokenAt, .int m_spot, .int m_here, .int m_token, .int m_value, .ref a_m_cuts, .ref a_m_letters, .int m_silent, .int m_greatest, .int m_moves, .int m_holders, .ref a_m_seen, .int m_seenMany, .ref a_m_pointBy, .ref a_m_isKept, .ref a_m_lanes, .ref a_m_lengths, .ref a_m_sheetCells, .int m_torn])), (a_m_state, .inl (k 0, 156, .inl o33)), (a_m_lanes, .inl (k 0, 4, .inl m_lanes)), (a_m_lengths, .inl (k 0, 4, .inl m_lengths)), (a_m_sheetCells, .inl (k 0, 160, .inl m_sheetCells))]) [0, 1] (va_runV (As := [.int (78 : Int32), .int (0 : Int32)]) (rest := []) ⟨hx, hb, hml, hown, hts⟩ (c_X6_copies l G k tL tM sK sV a_m a_m_state a_m_readPage a_m_tape a_m_cuts a_m_letters a_m_seen a_m_pointBy a_m_isKept a_m_lanes a_m_lengths a_m_sheetCells H.size m_toldOnce m_taped m_fault m_broken m_brokenAt m_spot m_here m_token m_value m_silent m_greatest m_moves m_holders m_seenMany m_torn v26.2 (78 : Int32) (0 : Int32) o33 hv) (cwV 2 hts gX6_read_X6_copies rfl rfl rfl (by decide +kernel) ⟨Nat.le_of_ble_eq_true rfl, Nat.le_of_ble_eq_true rfl⟩) (z_preV (wc := [(a_m, .inr (6, [.ref a_m_state, .ref a_m_readPage, .int m_toldOnce, .ref a_m_tape, .int m_taped, .int m_fault, .int m_broken, .int m_brokenAt, .int m_spot, .int m_here, .int m_token, .int m_value, .ref a_m_cuts, .ref a_m_letters, .int m_silent, .int m_greatest, .int m_moves, .int m_holders, .ref a_m_seen, .int m_seenMany, .ref a_m_pointBy, .ref a_m_isKept, .ref a_m_lanes, .ref a_m_lengths, .ref a_m_sheetCells, .int m_torn])), (a_m_state, .inl (k 0, 156, .inl v26.2))]) [0, 1] 0 6 hK hE hA hP hD hS (by decide) rfl rfl rfl) rfl rfl hl.1 rfl (lv_room (Nat.le_of_ble_eq_true rfl)) dX6_read_192 ⟨Nat.le_refl _, Nat.le_refl _⟩) hA hP hD hS rfl rfl rfl rfl (fun H locs hP hD hS => ?_)
                    refine lv_bipush (v := (-20)) hx hb dX6_read_195 (by decide) ?_
                    refine lv_iload hx hb dX6_read_197 (lv_at hl 1 rfl) ?_
                    refine lv_isub hx hb dX6_read_199 ?_
                    have hr := (hJ8 _ (hX7 _ (zs h)))
                    subst hr
                    exact hret H locs ls 200 hP hS dX6_read_200
                  clear h
                  have h := hv
                  refine lv_icmp_eq (tgt := 188) hx hb dX6_read_161 (by decide) (fun c32 => ?_) (fun c32 => ?_)
                  · have h := zit c32 h
                    exact hJ25 _ (zs h) H locs ls hP hD hS (lv_sub hl [2, 7] rfl)
                  · have h := zif c32 h
                    refine lv_aload_n hx hb dX6_read_164 rfl (lv_at hl 2 rfl) ?_
                    refine lv_aload_n hx hb dX6_read_165 rfl (lv_at hl 2 rfl) ?_
                    refine va_get (D := G) (ci := 6) (v := .ref a_m_sheetCells) (C := RX6) (T := TX6) (N := 26) hx hb hts iw_X6_read_X6 hown hK hP 0 rfl rfl 24 (by decide) (hts (.fieldLink RX6 45 "SpireLeanModel" "sheetCells" "[I") (List.mem_of_getElem? (i := 7) rfl)) (fun _ h9 => h9) rfl dX6_read_166 ?_
                    refine lv_iload hx hb dX6_read_169 (lv_at hl 0 rfl) ?_
                    refine lv_iconst (v := 1) hx hb dX6_read_171 (by decide) ?_
                    refine lv_isub hx hb dX6_read_172 ?_
                    obtain ⟨v27, hv, h⟩ := zb h
                    refine z_iald hx hb hK hP 4 0 rfl rfl hv dX6_read_173 ?_
                    refine lv_iconst (v := 2) hx hb dX6_read_174 (by decide) ?_
                    refine lv_aload_n hx hb dX6_read_175 rfl (lv_at hl 2 rfl) ?_
                    refine va_get (D := G) (ci := 6) (v := .ref a_m_sheetCells) (C := RX6) (T := TX6) (N := 26) hx hb hts iw_X6_read_X6 hown hK hP 0 rfl rfl 24 (by decide) (hts (.fieldLink RX6 45 "SpireLeanModel" "sheetCells" "[I") (List.mem_of_getElem? (i := 7) rfl)) (fun _ h9 => h9) rfl dX6_read_176 ?_
                    refine lv_iload hx hb dX6_read_179 (lv_at hl 0 rfl) ?_
                    obtain ⟨v28, hv, h⟩ := zb h
                    refine z_iald hx hb hK hP 4 0 rfl rfl hv dX6_read_181 ?_
                    obtain ⟨o29, hv, h⟩ := zb h
                    refine z_goi (w2 := [(a_m, .inr (6, [.ref a_m_state, .ref a_m_readPage, .int m_toldOnce, .ref a_m_tape, .int m_taped, .int m_fault, .int m_broken, .int m_brokenAt, .int m_spot, .int m_here, .int m_token, .int m_value, .ref a_m_cuts, .ref a_m_letters, .int m_silent, .int m_greatest, .int m_moves, .int m_holders, .ref a_m_seen, .int m_seenMany, .ref a_m_pointBy, .ref a_m_isKept, .ref a_m_lanes, .ref a_m_lengths, .ref a_m_sheetCells, .int m_torn])), (a_m_state, .inl (k 0, 156, .inl o29.2)), (a_m_lanes, .inl (k 0, 4, .inl m_lanes)), (a_m_lengths, .inl (k 0, 4, .inl m_lengths)), (a_m_sheetCells, .inl (k 0, 160, .inl m_sheetCells))]) [0, 1] (va_runV (As := [.int v27, .int (2 : Int32), .int v28]) (rest := []) ⟨hx, hb, hml, hown, hts⟩ (c_X6_alters l G k tL tM sK sV a_m a_m_state a_m_readPage a_m_tape a_m_cuts a_m_letters a_m_seen a_m_pointBy a_m_isKept a_m_lanes a_m_lengths a_m_sheetCells H.size m_toldOnce m_taped m_fault m_broken m_brokenAt m_spot m_here m_token m_value m_silent m_greatest m_moves m_holders m_seenMany m_torn x5.2.2.2 v27 (2 : Int32) v28 o29 hv) (cwV 3 hts gX6_read_X6_alters rfl rfl rfl (by decide +kernel) ⟨Nat.le_of_ble_eq_true rfl, Nat.le_of_ble_eq_true rfl⟩) (z_preV (wc := [(a_m, .inr (6, [.ref a_m_state, .ref a_m_readPage, .int m_toldOnce, .ref a_m_tape, .int m_taped, .int m_fault, .int m_broken, .int m_brokenAt, .int m_spot, .int m_here, .int m_token, .int m_value, .ref a_m_cuts, .ref a_m_letters, .int m_silent, .int m_greatest, .int m_moves, .int m_holders, .ref a_m_seen, .int m_seenMany, .ref a_m_pointBy, .ref a_m_isKept, .ref a_m_lanes, .ref a_m_lengths, .ref a_m_sheetCells, .int m_torn])), (a_m_state, .inl (k 0, 156, .inl x5.2.2.2))]) [0, 1] 0 6 hK hE hA hP hD hS (by decide) rfl rfl rfl) rfl rfl hl.1 rfl (lv_room (Nat.le_of_ble_eq_true rfl)) dX6_read_182 ⟨Nat.le_refl _, Nat.le_refl _⟩) hA hP hD hS rfl rfl rfl rfl (fun H locs hP hD hS => ?_)
                    refine lv_if_ge (tgt := 201) hx hb dX6_read_185 (by decide) (fun c31 => ?_) (fun c31 => ?_)
                    · have h := zit c31 h
                      refine lv_aload_n hx hb dX6_read_201 rfl (lv_at hl 2 rfl) ?_
                      refine lv_iconst (v := 0) hx hb dX6_read_202 (by decide) ?_
                      obtain ⟨o30, hv, h⟩ := zb h
                      refine z_gov (w2 := [(a_m, .inr (6, [.ref a_m_state, .ref a_m_readPage, .int m_toldOnce, .ref a_m_tape, .int m_taped, .int m_fault, .int m_broken, .int m_brokenAt, .int m_spot, .int m_here, .int m_token, .int m_value, .ref a_m_cuts, .ref a_m_letters, .int m_silent, .int m_greatest, .int m_moves, .int m_holders, .ref a_m_seen, .int m_seenMany, .ref a_m_pointBy, .ref a_m_isKept, .ref a_m_lanes, .ref a_m_lengths, .ref a_m_sheetCells, .int m_torn])), (a_m_state, .inl (k 0, 156, .inl o30)), (a_m_lanes, .inl (k 0, 4, .inl m_lanes)), (a_m_lengths, .inl (k 0, 4, .inl m_lengths)), (a_m_sheetCells, .inl (k 0, 160, .inl m_sheetCells))]) [0, 1] (va_runV (As := [.int (0 : Int32)]) (rest := []) ⟨hx, hb, hml, hown, hts⟩ (c_X6_yearOn l G k tL tM sK sV a_m a_m_state a_m_readPage a_m_tape a_m_cuts a_m_letters a_m_seen a_m_pointBy a_m_isKept a_m_lanes a_m_lengths a_m_sheetCells H.size m_toldOnce m_taped m_fault m_broken m_brokenAt m_spot m_here m_token m_value m_silent m_greatest m_moves m_holders m_seenMany m_torn o29.2 (0 : Int32) o30 hv) (cwV 1 hts gX6_read_X6_yearOn rfl rfl rfl (by decide +kernel) ⟨Nat.le_of_ble_eq_true rfl, Nat.le_of_ble_eq_true rfl⟩) (z_preV (wc := [(a_m, .inr (6, [.ref a_m_state, .ref a_m_readPage, .int m_toldOnce, .ref a_m_tape, .int m_taped, .int m_fault, .int m_broken, .int m_brokenAt, .int m_spot, .int m_here, .int m_token, .int m_value, .ref a_m_cuts, .ref a_m_letters, .int m_silent, .int m_greatest, .int m_moves, .int m_holders, .ref a_m_seen, .int m_seenMany, .ref a_m_pointBy, .ref a_m_isKept, .ref a_m_lanes, .ref a_m_lengths, .ref a_m_sheetCells, .int m_torn])), (a_m_state, .inl (k 0, 156, .inl o29.2))]) [0, 1] 0 6 hK hE hA hP hD hS (by decide) rfl rfl rfl) rfl rfl hl.1 rfl (lv_room (Nat.le_of_ble_eq_true rfl)) dX6_read_203 ⟨Nat.le_refl _, Nat.le_refl _⟩) hA hP hD hS rfl rfl rfl rfl (fun H locs hP hD hS => ?_)
                      refine lv_iinc (v := x5.2.1 + (1 : Int32)) (lv' := [(6, .int (x5.2.1 + (1 : Int32))), (8, .int ((((40 : Int32) * u1) + u3) + x5.2.2.1)), (5, .int e13_), (0, .ref a_m), (1, .int u1), (2, .int u2), (3, .int u3), (4, .int u4), (7, .int x5.2.2.1)]) hx hb dX6_read_206 hl (k := 7) rfl rfl (by decide) rfl (fun ls hl => ?_)
                      refine lv_iinc (v := x5.2.2.1 + (1 : Int32)) (lv' := [(7, .int (x5.2.2.1 + (1 : Int32))), (6, .int (x5.2.1 + (1 : Int32))), (8, .int ((((40 : Int32) * u1) + u3) + x5.2.2.1)), (5, .int e13_), (0, .ref a_m), (1, .int u1), (2, .int u2), (3, .int u3), (4, .int u4)]) hx hb dX6_read_209 hl (k := 8) rfl rfl (by decide) rfl (fun ls hl => ?_)
                      refine lv_goto (tgt := 55) hx hb dX6_read_212 (by decide) ?_
                      exact hJ24 _ (zs h) H locs ls hP hD hS (lv_sub hl [4, 5, 6, 7, 8, 3, 1, 0] rfl)
                    · have h := zif c31 h
                      exact hJ25 _ (zs h) H locs ls hP hD hS (lv_sub hl [2, 7] rfl)
            clear h
            have h := hv
            refine lv_icmp_ne (tgt := 84) hx hb dX6_read_77 (by decide) (fun c21 => ?_) (fun c21 => ?_)
            · have h := zif c21 h
              refine lv_aload_n hx hb dX6_read_84 rfl (lv_at hl 0 rfl) ?_
              refine va_get (D := G) (ci := 6) (v := .ref a_m_lanes) (C := RX6) (T := TX6) (N := 26) hx hb hts iw_X6_read_X6 hown hK hP 0 rfl rfl 22 (by decide) (hts (.fieldLink RX6 39 "SpireLeanModel" "lanes" "[I") (List.mem_of_getElem? (i := 4) rfl)) (fun _ h9 => h9) rfl dX6_read_85 ?_
              refine lv_iload_n hx hb dX6_read_88 rfl (lv_at hl 1 rfl) ?_
              obtain ⟨v16, hv, h⟩ := zb h
              refine z_iald hx hb hK hP 2 0 rfl rfl hv dX6_read_89 ?_
              refine lv_iload_n hx hb dX6_read_90 rfl (lv_at hl 2 rfl) ?_
              refine lv_icmp_eq (tgt := 98) hx hb dX6_read_91 (by decide) (fun c20 => ?_) (fun c20 => ?_)
              · have h := zit c20 h
                refine lv_iload_n hx hb dX6_read_98 rfl (lv_at hl 3 rfl) ?_
                refine lv_i2l (v := u3.toInt64) hx hb dX6_read_99 rfl ?_
                refine lv_iload hx hb dX6_read_100 (lv_at hl 7 rfl) ?_
                refine lv_i2l (v := x5.2.2.1.toInt64) hx hb dX6_read_102 rfl ?_
                refine lv_ladd hx hb dX6_read_103 ?_
                refine lv_lconst (v := 0) hx hb dX6_read_104 (by decide) ?_
                refine lv_aload_n hx hb dX6_read_105 rfl (lv_at hl 0 rfl) ?_
                refine va_get (D := G) (ci := 6) (v := .ref a_m_lengths) (C := RX6) (T := TX6) (N := 26) hx hb hts iw_X6_read_X6 hown hK hP 0 rfl rfl 23 (by decide) (hts (.fieldLink RX6 42 "SpireLeanModel" "lengths" "[I") (List.mem_of_getElem? (i := 5) rfl)) (fun _ h9 => h9) rfl dX6_read_106 ?_
                refine lv_iload_n hx hb dX6_read_109 rfl (lv_at hl 1 rfl) ?_
                obtain ⟨v17, hv, h⟩ := zb h
                refine z_iald hx hb hK hP 3 0 rfl rfl hv dX6_read_110 ?_
                refine lv_iconst (v := 1) hx hb dX6_read_111 (by decide) ?_
                refine lv_isub hx hb dX6_read_112 ?_
                refine lv_i2l (v := (v17 - (1 : Int32)).toInt64) hx hb dX6_read_113 rfl ?_
                obtain ⟨o18, hv, h⟩ := zb h
                refine z_goi (w2 := [(a_m, .inr (6, [.ref a_m_state, .ref a_m_readPage, .int m_toldOnce, .ref a_m_tape, .int m_taped, .int m_fault, .int m_broken, .int m_brokenAt, .int m_spot, .int m_here, .int m_token, .int m_value, .ref a_m_cuts, .ref a_m_letters, .int m_silent, .int m_greatest, .int m_moves, .int m_holders, .ref a_m_seen, .int m_seenMany, .ref a_m_pointBy, .ref a_m_isKept, .ref a_m_lanes, .ref a_m_lengths, .ref a_m_sheetCells, .int m_torn])), (a_m_state, .inl (k 0, 156, .inl x5.2.2.2)), (a_m_lanes, .inl (k 0, 4, .inl m_lanes)), (a_m_lengths, .inl (k 0, 4, .inl m_lengths)), (a_m_sheetCells, .inl (k 0, 160, .inl m_sheetCells))]) [] (va_runS (As := [.long (u3.toInt64 + x5.2.2.1.toInt64), .long (0 : Int64), .long ((v17 - (1 : Int32)).toInt64)]) (rest := []) ⟨hx, hb, hml, hown, hts⟩ (c_X6_in l G k tL tM sK sV H.size (u3.toInt64 + x5.2.2.1.toInt64) (0 : Int64) ((v17 - (1 : Int32)).toInt64) o18 hv) (va_cwS 3 hts gX6_read_X6_in rfl rfl rfl (by decide +kernel) ⟨Nat.le_of_ble_eq_true rfl, Nat.le_of_ble_eq_true rfl⟩) (z_preS (wc := []) [] hK hE hA hP hD hS (by decide) rfl) rfl rfl hl.1 rfl (lv_room (Nat.le_of_ble_eq_true rfl)) dX6_read_114 ⟨Nat.le_refl _, Nat.le_refl _⟩) hA hP hD hS rfl rfl rfl rfl (fun H locs hP hD hS => ?_)
                refine lv_if_ne (tgt := 124) hx hb dX6_read_117 (by decide) (fun c19 => ?_) (fun c19 => ?_)
                · have h := zif c19 h
                  refine lv_iconst (v := 0) hx hb dX6_read_124 (by decide) ?_
                  exact hJ14 _ (zs h) H locs ls hP hD hS (lv_sub hl [0, 1, 2, 3, 4, 6, 7] rfl)
                · have h := zit c19 h
                  refine lv_iconst (v := 2) hx hb dX6_read_120 (by decide) ?_
                  refine lv_goto (tgt := 125) hx hb dX6_read_121 (by decide) ?_
                  exact hJ14 _ (zs h) H locs ls hP hD hS (lv_sub hl [0, 1, 2, 3, 4, 6, 7] rfl)
              · have h := zif c20 h
                refine lv_iconst (v := 3) hx hb dX6_read_94 (by decide) ?_
                refine lv_goto (tgt := 125) hx hb dX6_read_95 (by decide) ?_
                exact hJ14 _ (zs h) H locs ls hP hD hS (lv_sub hl [0, 1, 2, 3, 4, 6, 7] rfl)
            · have h := zit c21 h
              refine lv_iconst (v := 1) hx hb dX6_read_80 (by decide) ?_
              refine lv_goto (tgt := 125) hx hb dX6_read_81 (by decide) ?_
              exact hJ14 _ (zs h) H locs ls hP hD hS (lv_sub hl [0, 1, 2, 3, 4, 6, 7] rfl)
      · have h := zit c38 h
        refine lv_iconst (v := (-1)) hx hb dX6_read_37 (by decide) ?_
        have hr := (zs h)
        subst hr
        exact hret H locs ls 38 hP hS dX6_read_38
theorem iw_X6_torn_X6 : ∀ w ∈ wsX60, w ∈ wsX6_torn := fun _ h => List.mem_cons_of_mem _ (List.mem_append_right _ h)
set_option maxHeartbeats 4000000 in
set_option maxRecDepth 100000 in
theorem c_X6_torn (l : Launch) (G : va_G) (k : Nat → ClassId) (tL tM : Nat) (sK sV : Nat → Nat) (a_m : Nat) (a_m_state : Nat) (a_m_readPage : Nat) (a_m_tape : Nat) (a_m_cuts : Nat) (a_m_letters : Nat) (a_m_seen : Nat) (a_m_pointBy : Nat) (a_m_isKept : Nat) (a_m_lanes : Nat) (a_m_lengths : Nat) (a_m_sheetCells : Nat) (sz : Nat) (m_toldOnce : Int32) (m_taped : Int32) (m_fault : Int32) (m_broken : Int32) (m_brokenAt : Int32) (m_spot : Int32) (m_here : Int32) (m_token : Int32) (m_value : Int32) (m_silent : Int32) (m_greatest : Int32) (m_moves : Int32) (m_holders : Int32) (m_seenMany : Int32) (m_torn : Int32) (out : Int32) (h : p_X6_torn m_torn = some out) : zMi l yX6_torn wsX6_torn 0 0 G k tL tM sK sV [.ref a_m] [(a_m, .inr (6, [.ref a_m_state, .ref a_m_readPage, .int m_toldOnce, .ref a_m_tape, .int m_taped, .int m_fault, .int m_broken, .int m_brokenAt, .int m_spot, .int m_here, .int m_token, .int m_value, .ref a_m_cuts, .ref a_m_letters, .int m_silent, .int m_greatest, .int m_moves, .int m_holders, .ref a_m_seen, .int m_seenMany, .ref a_m_pointBy, .ref a_m_isKept, .ref a_m_lanes, .ref a_m_lengths, .ref a_m_sheetCells, .int m_torn]))] [(a_m, .inr (6, [.ref a_m_state, .ref a_m_readPage, .int m_toldOnce, .ref a_m_tape, .int m_taped, .int m_fault, .int m_broken, .int m_brokenAt, .int m_spot, .int m_here, .int m_token, .int m_value, .ref a_m_cuts, .ref a_m_letters, .int m_silent, .int m_greatest, .int m_moves, .int m_holders, .ref a_m_seen, .int m_seenMany, .ref a_m_pointBy, .ref a_m_isKept, .ref a_m_lanes, .ref a_m_lengths, .ref a_m_sheetCells, .int m_torn]))] out sz := by
  refine z_meti (cc := cX6_torn) (maxL := 1) (by decide) rfl (Nat.le_of_ble_eq_true rfl) ?_
  intro p e s m below meth c A Q H locs ls hx hb hml hts hown hA hK hE hret hP hD hS hl
  have hown : s.vm.findClass RX6 = some m.cls := hown
  have hl : lv_has ls 1 [(0, .ref a_m)] := hl
  unfold p_X6_torn at h
  refine lv_aload_n hx hb dX6_torn_0 rfl (lv_at hl 0 rfl) ?_
  refine va_get (D := G) (ci := 6) (v := .int m_torn) (C := RX6) (T := TX6) (N := 26) hx hb hts iw_X6_torn_X6 hown hK hP 0 rfl rfl 25 (by decide) (hts (.fieldLink RX6 237 "SpireLeanModel" "torn" "I") (List.mem_of_getElem? (i := 1) rfl)) (fun _ h9 => h9) rfl dX6_torn_1 ?_
  have hr := (zs h)
  subst hr
  exact hret H locs ls 4 hP hS dX6_torn_4
theorem iw_X6_count_X6 : ∀ w ∈ wsX60, w ∈ wsX6_count := fun _ h => List.mem_cons_of_mem _ (List.mem_append_right _ h)
set_option maxHeartbeats 4000000 in
set_option maxRecDepth 100000 in
theorem c_X6_count (l : Launch) (G : va_G) (k : Nat → ClassId) (tL tM : Nat) (sK sV : Nat → Nat) (a_m : Nat) (a_m_state : Nat) (a_m_readPage : Nat) (a_m_tape : Nat) (a_m_cuts : Nat) (a_m_letters : Nat) (a_m_seen : Nat) (a_m_pointBy : Nat) (a_m_isKept : Nat) (a_m_lanes : Nat) (a_m_lengths : Nat) (a_m_sheetCells : Nat) (sz : Nat) (m_toldOnce : Int32) (m_taped : Int32) (m_fault : Int32) (m_broken : Int32) (m_brokenAt : Int32) (m_spot : Int32) (m_here : Int32) (m_token : Int32) (m_value : Int32) (m_silent : Int32) (m_greatest : Int32) (m_moves : Int32) (m_holders : Int32) (m_seenMany : Int32) (m_torn : Int32) (m_state : Nat → Int32) (m_isKept : Nat → Int32) (m_lanes : Nat → Int32) (m_lengths : Nat → Int32) (u1 : Int32) (out : Int32) (h : p_X6_count u1 m_taped m_seenMany m_state m_isKept m_lanes m_lengths = some out) : zMi l yX6_count wsX6_count 0 0 G k tL tM sK sV [.ref a_m, .int u1] [(a_m, .inr (6, [.ref a_m_state, .ref a_m_readPage, .int m_toldOnce, .ref a_m_tape, .int m_taped, .int m_fault, .int m_broken, .int m_brokenAt, .int m_spot, .int m_here, .int m_token, .int m_value, .ref a_m_cuts, .ref a_m_letters, .int m_silent, .int m_greatest, .int m_moves, .int m_holders, .ref a_m_seen, .int m_seenMany, .ref a_m_pointBy, .ref a_m_isKept, .ref a_m_lanes, .ref a_m_lengths, .ref a_m_sheetCells, .int m_torn])), (a_m_state, .inl (k 0, 156, .inl m_state)), (a_m_isKept, .inl (k 3, 2, .inl m_isKept)), (a_m_lanes, .inl (k 0, 4, .inl m_lanes)), (a_m_lengths, .inl (k 0, 4, .inl m_lengths))] [(a_m, .inr (6, [.ref a_m_state, .ref a_m_readPage, .int m_toldOnce, .ref a_m_tape, .int m_taped, .int m_fault, .int m_broken, .int m_brokenAt, .int m_spot, .int m_here, .int m_token, .int m_value, .ref a_m_cuts, .ref a_m_letters, .int m_silent, .int m_greatest, .int m_moves, .int m_holders, .ref a_m_seen, .int m_seenMany, .ref a_m_pointBy, .ref a_m_isKept, .ref a_m_lanes, .ref a_m_lengths, .ref a_m_sheetCells, .int m_torn])), (a_m_state, .inl (k 0, 156, .inl m_state)), (a_m_isKept, .inl (k 3, 2, .inl m_isKept)), (a_m_lanes, .inl (k 0, 4, .inl m_lanes)), (a_m_lengths, .inl (k 0, 4, .inl m_lengths))] out sz := by
  refine z_meti (cc := cX6_count) (maxL := 5) (by decide) rfl (Nat.le_of_ble_eq_true rfl) ?_
  intro p e s m below meth c A Q H locs ls hx hb hml hts hown hA hK hE hret hP hD hS hl
  have hown : s.vm.findClass RX6 = some m.cls := hown
  have hl : lv_has ls 5 [(0, .ref a_m), (1, .int u1)] := hl
  unfold p_X6_count at h
  refine lv_iconst (v := 0) hx hb dX6_count_0 (by decide) ?_
  refine lv_istore_n (lv' := [(2, .int (0 : Int32)), (0, .ref a_m), (1, .int u1)]) hx hb dX6_count_1 rfl hl (by decide) rfl (fun ls hl => ?_)
  refine lv_iconst (v := 0) hx hb dX6_count_2 (by decide) ?_
  refine lv_istore_n (lv' := [(3, .int (0 : Int32)), (2, .int (0 : Int32)), (0, .ref a_m), (1, .int u1)]) hx hb dX6_count_3 rfl hl (by decide) rfl (fun ls hl => ?_)
  refine lv_iconst (v := 0) hx hb dX6_count_4 (by decide) ?_
  refine lv_istore (lv' := [(4, .int (0 : Int32)), (3, .int (0 : Int32)), (2, .int (0 : Int32)), (0, .ref a_m), (1, .int u1)]) hx hb dX6_count_5 hl (by decide) rfl (fun ls hl => ?_)
  obtain ⟨e5, hv, h⟩ := zb h
  have hJ4 : ∀ (e5_ : Int32 × Int32), e5_ = e5 → zW p l e (zR 0 0) s m ([.ref a_m, .int u1] : List Value).toArray below meth c Q 5 A G [(a_m, .inr (6, [.ref a_m_state, .ref a_m_readPage, .int m_toldOnce, .ref a_m_tape, .int m_taped, .int m_fault, .int m_broken, .int m_brokenAt, .int m_spot, .int m_here, .int m_token, .int m_value, .ref a_m_cuts, .ref a_m_letters, .int m_silent, .int m_greatest, .int m_moves, .int m_holders, .ref a_m_seen, .int m_seenMany, .ref a_m_pointBy, .ref a_m_isKept, .ref a_m_lanes, .ref a_m_lengths, .ref a_m_sheetCells, .int m_torn])), (a_m_state, .inl (k 0, 156, .inl m_state)), (a_m_isKept, .inl (k 3, 2, .inl m_isKept)), (a_m_lanes, .inl (k 0, 4, .inl m_lanes)), (a_m_lengths, .inl (k 0, 4, .inl m_lengths))] [(0, .ref a_m), (1, .int u1), (2, .int e5_.1), (3, .int e5_.2)] 65 [] := by
    intro e5_ hz
    subst hz
    intro H locs ls hP hD hS hl
    refine lv_iload_n hx hb dX6_count_65 rfl (lv_at hl 1 rfl) ?_
    by_cases c13 : u1 = (0 : Int32)
    · have h := zit c13 h
      refine lv_tableIn (off := 38) (tgt := 104) hx hb dX6_count_66 (by rw [c13]; decide) (by rw [c13]; decide) (by rw [c13]; decide) (by decide) ?_
      refine lv_aload_n hx hb dX6_count_104 rfl (lv_at hl 0 rfl) ?_
      refine va_get (D := G) (ci := 6) (v := .int m_seenMany) (C := RX6) (T := TX6) (N := 26) hx hb hts iw_X6_count_X6 hown hK hP 0 rfl rfl 19 (by decide) (hts (.fieldLink RX6 116 "SpireLeanModel" "seenMany" "I") (List.mem_of_getElem? (i := 2) rfl)) (fun _ h9 => h9) rfl dX6_count_105 ?_
      have hr := (zs h)
      subst hr
      exact hret H locs ls 108 hP hS dX6_count_108
    · have h := zif c13 h
      by_cases c14 : u1 = (1 : Int32)
      · have h := zit c14 h
        refine lv_tableIn (off := 43) (tgt := 109) hx hb dX6_count_66 (by rw [c14]; decide) (by rw [c14]; decide) (by rw [c14]; decide) (by decide) ?_
        refine lv_aload_n hx hb dX6_count_109 rfl (lv_at hl 0 rfl) ?_
        refine va_get (D := G) (ci := 6) (v := .ref a_m_isKept) (C := RX6) (T := TX6) (N := 26) hx hb hts iw_X6_count_X6 hown hK hP 0 rfl rfl 21 (by decide) (hts (.fieldLink RX6 35 "SpireLeanModel" "isKept" "[Z") (List.mem_of_getElem? (i := 3) rfl)) (fun _ h9 => h9) rfl dX6_count_110 ?_
        refine lv_iconst (v := 0) hx hb dX6_count_113 (by decide) ?_
        obtain ⟨v15, hv, h⟩ := zb h
        refine z_zald hx hb hK hP 2 3 rfl rfl hv dX6_count_114 ?_
        have hJ16 : ∀ (y17 : Int32), y17 = (if v15 = 0 then (0 : Int32) else (1 : Int32)) → zW p l e (zR 0 0) s m ([.ref a_m, .int u1] : List Value).toArray below meth c Q 5 A G [(a_m, .inr (6, [.ref a_m_state, .ref a_m_readPage, .int m_toldOnce, .ref a_m_tape, .int m_taped, .int m_fault, .int m_broken, .int m_brokenAt, .int m_spot, .int m_here, .int m_token, .int m_value, .ref a_m_cuts, .ref a_m_letters, .int m_silent, .int m_greatest, .int m_moves, .int m_holders, .ref a_m_seen, .int m_seenMany, .ref a_m_pointBy, .ref a_m_isKept, .ref a_m_lanes, .ref a_m_lengths, .ref a_m_sheetCells, .int m_torn])), (a_m_state, .inl (k 0, 156, .inl m_state)), (a_m_isKept, .inl (k 3, 2, .inl m_isKept)), (a_m_lanes, .inl (k 0, 4, .inl m_lanes)), (a_m_lengths, .inl (k 0, 4, .inl m_lengths))] [(0, .ref a_m)] 123 [.int y17] := by
          intro y17 q18
          subst q18
          intro H locs ls hP hD hS hl
          refine lv_aload_n hx hb dX6_count_123 rfl (lv_at hl 0 rfl) ?_
          refine va_get (D := G) (ci := 6) (v := .ref a_m_isKept) (C := RX6) (T := TX6) (N := 26) hx hb hts iw_X6_count_X6 hown hK hP 0 rfl rfl 21 (by decide) (hts (.fieldLink RX6 35 "SpireLeanModel" "isKept" "[Z") (List.mem_of_getElem? (i := 3) rfl)) (fun _ h9 => h9) rfl dX6_count_124 ?_
          refine lv_iconst (v := 1) hx hb dX6_count_127 (by decide) ?_
          obtain ⟨v20, hv, h⟩ := zb h
          refine z_zald hx hb hK hP 2 3 rfl rfl hv dX6_count_128 ?_
          refine lv_if_eq (tgt := 136) hx hb dX6_count_129 (by decide) (fun c21 => ?_) (fun c21 => ?_)
          · have h := zit c21 h
            refine lv_iconst (v := 0) hx hb dX6_count_136 (by decide) ?_
            refine lv_iadd hx hb dX6_count_137 ?_
            have hr := (zs h)
            subst hr
            exact hret H locs ls 138 hP hS dX6_count_138
          · have h := zif c21 h
            refine lv_iconst (v := 1) hx hb dX6_count_132 (by decide) ?_
            refine lv_goto (tgt := 137) hx hb dX6_count_133 (by decide) ?_
            refine lv_iadd hx hb dX6_count_137 ?_
            have hr := (zs h)
            subst hr
            exact hret H locs ls 138 hP hS dX6_count_138
        refine lv_if_eq (tgt := 122) hx hb dX6_count_115 (by decide) (fun c19 => ?_) (fun c19 => ?_)
        · refine lv_iconst (v := 0) hx hb dX6_count_122 (by decide) ?_
          exact hJ16 _ (if_pos c19).symm H locs ls hP hD hS (lv_sub hl [0] rfl)
        · refine lv_iconst (v := 1) hx hb dX6_count_118 (by decide) ?_
          refine lv_goto (tgt := 123) hx hb dX6_count_119 (by decide) ?_
          exact hJ16 _ (if_neg c19).symm H locs ls hP hD hS (lv_sub hl [0] rfl)
      · have h := zif c14 h
        by_cases c22 : u1 = (2 : Int32)
        · have h := zit c22 h
          refine lv_tableIn (off := 73) (tgt := 139) hx hb dX6_count_66 (by rw [c22]; decide) (by rw [c22]; decide) (by rw [c22]; decide) (by decide) ?_
          refine lv_aload_n hx hb dX6_count_139 rfl (lv_at hl 0 rfl) ?_
          refine va_get (D := G) (ci := 6) (v := .int m_taped) (C := RX6) (T := TX6) (N := 26) hx hb hts iw_X6_count_X6 hown hK hP 0 rfl rfl 4 (by decide) (hts (.fieldLink RX6 54 "SpireLeanModel" "taped" "I") (List.mem_of_getElem? (i := 4) rfl)) (fun _ h9 => h9) rfl dX6_count_140 ?_
          have hr := (zs h)
          subst hr
          exact hret H locs ls 143 hP hS dX6_count_143
        · have h := zif c22 h
          by_cases c23 : u1 = (3 : Int32)
          · have h := zit c23 h
            refine lv_tableIn (off := 78) (tgt := 144) hx hb dX6_count_66 (by rw [c23]; decide) (by rw [c23]; decide) (by rw [c23]; decide) (by decide) ?_
            refine lv_aload_n hx hb dX6_count_144 rfl (lv_at hl 0 rfl) ?_
            refine va_get (D := G) (ci := 6) (v := .ref a_m_lanes) (C := RX6) (T := TX6) (N := 26) hx hb hts iw_X6_count_X6 hown hK hP 0 rfl rfl 22 (by decide) (hts (.fieldLink RX6 39 "SpireLeanModel" "lanes" "[I") (List.mem_of_getElem? (i := 5) rfl)) (fun _ h9 => h9) rfl dX6_count_145 ?_
            refine lv_iconst (v := 0) hx hb dX6_count_148 (by decide) ?_
            obtain ⟨v24, hv, h⟩ := zb h
            refine z_iald hx hb hK hP 3 0 rfl rfl hv dX6_count_149 ?_
            refine lv_bipush (v := (-4)) hx hb dX6_count_150 (by decide) ?_
            refine lv_icmp_ne (tgt := 160) hx hb dX6_count_152 (by decide) (fun c26 => ?_) (fun c26 => ?_)
            · have h := zif c26 h
              refine lv_aload_n hx hb dX6_count_160 rfl (lv_at hl 0 rfl) ?_
              refine va_get (D := G) (ci := 6) (v := .ref a_m_lengths) (C := RX6) (T := TX6) (N := 26) hx hb hts iw_X6_count_X6 hown hK hP 0 rfl rfl 23 (by decide) (hts (.fieldLink RX6 42 "SpireLeanModel" "lengths" "[I") (List.mem_of_getElem? (i := 6) rfl)) (fun _ h9 => h9) rfl dX6_count_161 ?_
              refine lv_iconst (v := 0) hx hb dX6_count_164 (by decide) ?_
              obtain ⟨v25, hv, h⟩ := zb h
              refine z_iald hx hb hK hP 4 0 rfl rfl hv dX6_count_165 ?_
              have hr := (zs h)
              subst hr
              exact hret H locs ls 166 hP hS dX6_count_166
            · have h := zit c26 h
              refine lv_bipush (v := (-4)) hx hb dX6_count_155 (by decide) ?_
              refine lv_goto (tgt := 166) hx hb dX6_count_157 (by decide) ?_
              have hr := (zs h)
              subst hr
              exact hret H locs ls 166 hP hS dX6_count_166
          · have h := zif c23 h
            by_cases c27 : u1 = (4 : Int32)
            · have h := zit c27 h
              refine lv_tableIn (off := 101) (tgt := 167) hx hb dX6_count_66 (by rw [c27]; decide) (by rw [c27]; decide) (by rw [c27]; decide) (by decide) ?_
              refine lv_iload_n hx hb dX6_count_167 rfl (lv_at hl 2 rfl) ?_
              have hr := (zs h)
              subst hr
              exact hret H locs ls 168 hP hS dX6_count_168
            · have h := zif c27 h
              by_cases c28 : u1 = (5 : Int32)
              · have h := zit c28 h
                refine lv_tableIn (off := 103) (tgt := 169) hx hb dX6_count_66 (by rw [c28]; decide) (by rw [c28]; decide) (by rw [c28]; decide) (by decide) ?_
                refine lv_iload_n hx hb dX6_count_169 rfl (lv_at hl 3 rfl) ?_
                have hr := (zs h)
                subst hr
                exact hret H locs ls 170 hP hS dX6_count_170
              · have h := zif c28 h
                have hw : (u1).toInt < 0 ∨ 5 < (u1).toInt := by
                  have e0 : (u1).toInt ≠ 0 := fun q => c13 (Int32.toInt_inj.mp q)
                  have e1 : (u1).toInt ≠ 1 := fun q => c14 (Int32.toInt_inj.mp q)
                  have e2 : (u1).toInt ≠ 2 := fun q => c22 (Int32.toInt_inj.mp q)
                  have e3 : (u1).toInt ≠ 3 := fun q => c23 (Int32.toInt_inj.mp q)
                  have e4 : (u1).toInt ≠ 4 := fun q => c27 (Int32.toInt_inj.mp q)
                  have e5_ : (u1).toInt ≠ 5 := fun q => c28 (Int32.toInt_inj.mp q)
                  omega
                refine lv_tableOut (tgt := 171) hx hb dX6_count_66 hw (by decide) ?_
                refine lv_iconst (v := (-1)) hx hb dX6_count_171 (by decide) ?_
                have hr := (zs h)
                subst hr
                exact hret H locs ls 172 hP hS dX6_count_172
  refine z_lpW (Wh := fun (x1 : Int32 × Int32 × Int32) => zW p l e (zR 0 0) s m ([.ref a_m, .int u1] : List Value).toArray below meth c Q 5 A G [(a_m, .inr (6, [.ref a_m_state, .ref a_m_readPage, .int m_toldOnce, .ref a_m_tape, .int m_taped, .int m_fault, .int m_broken, .int m_brokenAt, .int m_spot, .int m_here, .int m_token, .int m_value, .ref a_m_cuts, .ref a_m_letters, .int m_silent, .int m_greatest, .int m_moves, .int m_holders, .ref a_m_seen, .int m_seenMany, .ref a_m_pointBy, .ref a_m_isKept, .ref a_m_lanes, .ref a_m_lengths, .ref a_m_sheetCells, .int m_torn])), (a_m_state, .inl (k 0, 156, .inl m_state)), (a_m_isKept, .inl (k 3, 2, .inl m_isKept)), (a_m_lanes, .inl (k 0, 4, .inl m_lanes)), (a_m_lengths, .inl (k 0, 4, .inl m_lengths))] [(0, .ref a_m), (1, .int u1), (2, .int x1.1), (3, .int x1.2.1), (4, .int x1.2.2)] 7 []) ?_ 1000 _ hv H locs ls hP hD hS (lv_sub hl [3, 4, 2, 1, 0] rfl)
  clear h
  intro x1 o h hC2 hX3 H locs ls hP hD hS hl
  unfold p_X6_count_b7 at h
  refine lv_iload hx hb dX6_count_7 (lv_at hl 4 rfl) ?_
  refine lv_aload_n hx hb dX6_count_9 rfl (lv_at hl 0 rfl) ?_
  refine va_get (D := G) (ci := 6) (v := .ref a_m_state) (C := RX6) (T := TX6) (N := 26) hx hb hts iw_X6_count_X6 hown hK hP 0 rfl rfl 0 (by decide) (hts (.fieldLink RX6 7 "SpireLeanModel" "state" "[I") (List.mem_of_getElem? (i := 1) rfl)) (fun _ h9 => h9) rfl dX6_count_10 ?_
  refine lv_bipush (v := 20) hx hb dX6_count_13 (by decide) ?_
  obtain ⟨v7, hv, h⟩ := zb h
  refine z_iald hx hb hK hP 1 0 rfl rfl hv dX6_count_15 ?_
  refine lv_icmp_ge (tgt := 65) hx hb dX6_count_16 (by decide) (fun c12 => ?_) (fun c12 => ?_)
  · have h := zit c12 h
    exact hJ4 _ (hX3 _ (zs h)) H locs ls hP hD hS (lv_sub hl [0, 1, 2, 3] rfl)
  · have h := zif c12 h
    refine lv_iload_n hx hb dX6_count_19 rfl (lv_at hl 2 rfl) ?_
    refine lv_aload_n hx hb dX6_count_20 rfl (lv_at hl 0 rfl) ?_
    refine va_get (D := G) (ci := 6) (v := .ref a_m_state) (C := RX6) (T := TX6) (N := 26) hx hb hts iw_X6_count_X6 hown hK hP 0 rfl rfl 0 (by decide) (hts (.fieldLink RX6 7 "SpireLeanModel" "state" "[I") (List.mem_of_getElem? (i := 1) rfl)) (fun _ h9 => h9) rfl dX6_count_21 ?_
    refine lv_iconst (v := 5) hx hb dX6_count_24 (by decide) ?_
    refine lv_iload hx hb dX6_count_25 (lv_at hl 4 rfl) ?_
    refine lv_iadd hx hb dX6_count_27 ?_
    obtain ⟨v8, hv, h⟩ := zb h
    refine z_iald hx hb hK hP 1 0 rfl rfl hv dX6_count_28 ?_
    refine lv_iadd hx hb dX6_count_29 ?_
    refine lv_istore_n (lv' := [(2, .int (x1.1 + v8)), (0, .ref a_m), (1, .int u1), (3, .int x1.2.1), (4, .int x1.2.2)]) hx hb dX6_count_30 rfl hl (by decide) rfl (fun ls hl => ?_)
    refine lv_iload_n hx hb dX6_count_31 rfl (lv_at hl 3 rfl) ?_
    refine lv_aload_n hx hb dX6_count_32 rfl (lv_at hl 1 rfl) ?_
    refine va_get (D := G) (ci := 6) (v := .ref a_m_state) (C := RX6) (T := TX6) (N := 26) hx hb hts iw_X6_count_X6 hown hK hP 0 rfl rfl 0 (by decide) (hts (.fieldLink RX6 7 "SpireLeanModel" "state" "[I") (List.mem_of_getElem? (i := 1) rfl)) (fun _ h9 => h9) rfl dX6_count_33 ?_
    refine lv_bipush (v := 25) hx hb dX6_count_36 (by decide) ?_
    obtain ⟨v9, hv, h⟩ := zb h
    refine z_iald hx hb hK hP 1 0 rfl rfl hv dX6_count_38 ?_
    refine lv_aload_n hx hb dX6_count_39 rfl (lv_at hl 1 rfl) ?_
    refine va_get (D := G) (ci := 6) (v := .ref a_m_state) (C := RX6) (T := TX6) (N := 26) hx hb hts iw_X6_count_X6 hown hK hP 0 rfl rfl 0 (by decide) (hts (.fieldLink RX6 7 "SpireLeanModel" "state" "[I") (List.mem_of_getElem? (i := 1) rfl)) (fun _ h9 => h9) rfl dX6_count_40 ?_
    refine lv_bipush (v := 15) hx hb dX6_count_43 (by decide) ?_
    refine lv_iload hx hb dX6_count_45 (lv_at hl 4 rfl) ?_
    refine lv_iadd hx hb dX6_count_47 ?_
    obtain ⟨v10, hv, h⟩ := zb h
    refine z_iald hx hb hK hP 1 0 rfl rfl hv dX6_count_48 ?_
    refine lv_icmp_lt (tgt := 56) hx hb dX6_count_49 (by decide) (fun c11 => ?_) (fun c11 => ?_)
    · have h := zit c11 h
      refine lv_iconst (v := 0) hx hb dX6_count_56 (by decide) ?_
      refine lv_iadd hx hb dX6_count_57 ?_
      refine lv_istore_n (lv' := [(3, .int (x1.2.1 + (0 : Int32))), (2, .int (x1.1 + v8)), (0, .ref a_m), (1, .int u1), (4, .int x1.2.2)]) hx hb dX6_count_58 rfl hl (by decide) rfl (fun ls hl => ?_)
      refine lv_iinc (v := x1.2.2 + (1 : Int32)) (lv' := [(4, .int (x1.2.2 + (1 : Int32))), (3, .int (x1.2.1 + (0 : Int32))), (2, .int (x1.1 + v8)), (0, .ref a_m), (1, .int u1)]) hx hb dX6_count_59 hl (k := 4) rfl rfl (by decide) rfl (fun ls hl => ?_)
      refine lv_goto (tgt := 7) hx hb dX6_count_62 (by decide) ?_
      exact hC2 _ (zs h) H locs ls hP hD hS (lv_sub hl [3, 4, 2, 1, 0] rfl)
    · have h := zif c11 h
      refine lv_iconst (v := 1) hx hb dX6_count_52 (by decide) ?_
      refine lv_goto (tgt := 57) hx hb dX6_count_53 (by decide) ?_
      refine lv_iadd hx hb dX6_count_57 ?_
      refine lv_istore_n (lv' := [(3, .int (x1.2.1 + (1 : Int32))), (2, .int (x1.1 + v8)), (0, .ref a_m), (1, .int u1), (4, .int x1.2.2)]) hx hb dX6_count_58 rfl hl (by decide) rfl (fun ls hl => ?_)
      refine lv_iinc (v := x1.2.2 + (1 : Int32)) (lv' := [(4, .int (x1.2.2 + (1 : Int32))), (3, .int (x1.2.1 + (1 : Int32))), (2, .int (x1.1 + v8)), (0, .ref a_m), (1, .int u1)]) hx hb dX6_count_59 hl (k := 4) rfl rfl (by decide) rfl (fun ls hl => ?_)
      refine lv_goto (tgt := 7) hx hb dX6_count_62 (by decide) ?_
      exact hC2 _ (zs h) H locs ls hP hD hS (lv_sub hl [3, 4, 2, 1, 0] rfl)
