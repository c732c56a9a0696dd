theorem iw_X6_rule_X6 : ∀ w ∈ wsX60, w ∈ wsX6_rule := fun _ h => List.mem_cons_of_mem _ (List.mem_append_right _ h)
set_option maxHeartbeats 4000000 in
set_option maxRecDepth 100000 in
theorem c_X6_rule (l : Launch) (G : va_G) (k : Nat → ClassId) (tL tM : Nat) (sK sV : Nat → Nat) (a_m : Nat) (a_m_state : Nat) (a_m_readPage : Nat) (a_m_tape : Nat) (a_m_cuts : Nat) (a_m_letters : Nat) (a_m_seen : Nat) (a_m_pointBy : Nat) (a_m_isKept : Nat) (a_m_lanes : Nat) (a_m_lengths : Nat) (a_m_sheetCells : Nat) (sz : Nat) (m_toldOnce : Int32) (m_taped : Int32) (m_fault : Int32) (m_broken : Int32) (m_brokenAt : Int32) (m_spot : Int32) (m_here : Int32) (m_token : Int32) (m_value : Int32) (m_silent : Int32) (m_greatest : Int32) (m_moves : Int32) (m_holders : Int32) (m_seenMany : Int32) (m_torn : Int32) (m_state : Nat → Int32) (u1 : Int32) (out : Int32) (h : p_X6_rule u1 m_silent m_state = some out) : zMi l yX6_rule wsX6_rule 5 109 G k tL tM sK sV [.ref a_m, .int u1] [(a_m, .inr (6, [.ref a_m_state, .ref a_m_readPage, .int m_toldOnce, .ref a_m_tape, .int m_taped, .int m_fault, .int m_broken, .int m_brokenAt, .int m_spot, .int m_here, .int m_token, .int m_value, .ref a_m_cuts, .ref a_m_letters, .int m_silent, .int m_greatest, .int m_moves, .int m_holders, .ref a_m_seen, .int m_seenMany, .ref a_m_pointBy, .ref a_m_isKept, .ref a_m_lanes, .ref a_m_lengths, .ref a_m_sheetCells, .int m_torn])), (a_m_state, .inl (k 0, 156, .inl m_state))] [(a_m, .inr (6, [.ref a_m_state, .ref a_m_readPage, .int m_toldOnce, .ref a_m_tape, .int m_taped, .int m_fault, .int m_broken, .int m_brokenAt, .int m_spot, .int m_here, .int m_token, .int m_value, .ref a_m_cuts, .ref a_m_letters, .int m_silent, .int m_greatest, .int m_moves, .int m_holders, .ref a_m_seen, .int m_seenMany, .ref a_m_pointBy, .ref a_m_isKept, .ref a_m_lanes, .ref a_m_lengths, .ref a_m_sheetCells, .int m_torn])), (a_m_state, .inl (k 0, 156, .inl m_state))] out sz := by
  refine z_meti (cc := cX6_rule) (maxL := 2) (by decide) rfl (Nat.le_of_ble_eq_true rfl) ?_
  intro p e s m below meth c A Q H locs ls hx hb hml hts hown hA hK hE hret hP hD hS hl
  have hown : s.vm.findClass RX6 = some m.cls := hown
  have hl : lv_has ls 2 [(0, .ref a_m), (1, .int u1)] := hl
  unfold p_X6_rule at h
  refine lv_iload_n hx hb dX6_rule_0 rfl (lv_at hl 1 rfl) ?_
  by_cases c1 : u1 = (0 : Int32)
  · have h := zit c1 h
    refine lv_tableIn (off := 55) (tgt := 56) hx hb dX6_rule_1 (by rw [c1]; decide) (by rw [c1]; decide) (by rw [c1]; decide) (by decide) ?_
    refine lv_aload_n hx hb dX6_rule_56 rfl (lv_at hl 0 rfl) ?_
    refine va_get (D := G) (ci := 6) (v := .ref a_m_state) (C := RX6) (T := TX6) (N := 26) hx hb hts iw_X6_rule_X6 hown hK hP 0 rfl rfl 0 (by decide) (hts (.fieldLink RX6 7 "SpireLeanModel" "state" "[I") (List.mem_of_getElem? (i := 1) rfl)) (fun _ h9 => h9) rfl dX6_rule_57 ?_
    refine lv_bipush (v := 20) hx hb dX6_rule_60 (by decide) ?_
    obtain ⟨v2, hv, h⟩ := zb h
    refine z_iald hx hb hK hP 1 0 rfl rfl hv dX6_rule_62 ?_
    have hr := (zs h)
    subst hr
    exact hret H locs ls 63 hP hS dX6_rule_63
  · have h := zif c1 h
    by_cases c3 : u1 = (1 : Int32)
    · have h := zit c3 h
      refine lv_tableIn (off := 63) (tgt := 64) hx hb dX6_rule_1 (by rw [c3]; decide) (by rw [c3]; decide) (by rw [c3]; decide) (by decide) ?_
      refine lv_aload_n hx hb dX6_rule_64 rfl (lv_at hl 0 rfl) ?_
      refine va_get (D := G) (ci := 6) (v := .ref a_m_state) (C := RX6) (T := TX6) (N := 26) hx hb hts iw_X6_rule_X6 hown hK hP 0 rfl rfl 0 (by decide) (hts (.fieldLink RX6 7 "SpireLeanModel" "state" "[I") (List.mem_of_getElem? (i := 1) rfl)) (fun _ h9 => h9) rfl dX6_rule_65 ?_
      refine lv_bipush (v := 25) hx hb dX6_rule_68 (by decide) ?_
      obtain ⟨v4, hv, h⟩ := zb h
      refine z_iald hx hb hK hP 1 0 rfl rfl hv dX6_rule_70 ?_
      have hr := (zs h)
      subst hr
      exact hret H locs ls 71 hP hS dX6_rule_71
    · have h := zif c3 h
      by_cases c5 : u1 = (2 : Int32)
      · have h := zit c5 h
        refine lv_tableIn (off := 71) (tgt := 72) hx hb dX6_rule_1 (by rw [c5]; decide) (by rw [c5]; decide) (by rw [c5]; decide) (by decide) ?_
        refine lv_aload_n hx hb dX6_rule_72 rfl (lv_at hl 0 rfl) ?_
        refine va_get (D := G) (ci := 6) (v := .ref a_m_state) (C := RX6) (T := TX6) (N := 26) hx hb hts iw_X6_rule_X6 hown hK hP 0 rfl rfl 0 (by decide) (hts (.fieldLink RX6 7 "SpireLeanModel" "state" "[I") (List.mem_of_getElem? (i := 1) rfl)) (fun _ h9 => h9) rfl dX6_rule_73 ?_
        refine lv_bipush (v := 21) hx hb dX6_rule_76 (by decide) ?_
        obtain ⟨v6, hv, h⟩ := zb h
        refine z_iald hx hb hK hP 1 0 rfl rfl hv dX6_rule_78 ?_
        refine lv_bipush (v := 44) hx hb dX6_rule_79 (by decide) ?_
        refine lv_iadd hx hb dX6_rule_81 ?_
        have hr := (zs h)
        subst hr
        exact hret H locs ls 82 hP hS dX6_rule_82
      · have h := zif c5 h
        by_cases c7 : u1 = (3 : Int32)
        · have h := zit c7 h
          refine lv_tableIn (off := 82) (tgt := 83) hx hb dX6_rule_1 (by rw [c7]; decide) (by rw [c7]; decide) (by rw [c7]; decide) (by decide) ?_
          refine lv_aload_n hx hb dX6_rule_83 rfl (lv_at hl 0 rfl) ?_
          refine lv_iconst (v := 0) hx hb dX6_rule_84 (by decide) ?_
          obtain ⟨o8, hv, h⟩ := zb h
          refine z_goi (w2 := [(a_m, .inr (6, [.ref a_m_state, .ref a_m_readPage, .int m_toldOnce, .ref a_m_tape, .int m_taped, .int m_fault, .int m_broken, .int m_brokenAt, .int m_spot, .int m_here, .int m_token, .int m_value, .ref a_m_cuts, .ref a_m_letters, .int m_silent, .int m_greatest, .int m_moves, .int m_holders, .ref a_m_seen, .int m_seenMany, .ref a_m_pointBy, .ref a_m_isKept, .ref a_m_lanes, .ref a_m_lengths, .ref a_m_sheetCells, .int m_torn])), (a_m_state, .inl (k 0, 156, .inl m_state))]) [0, 1] (va_runV (As := [.int (0 : Int32)]) (rest := []) ⟨hx, hb, hml, hown, hts⟩ (c_X6_pointOn l G k tL tM sK sV a_m a_m_state a_m_readPage a_m_tape a_m_cuts a_m_letters a_m_seen a_m_pointBy a_m_isKept a_m_lanes a_m_lengths a_m_sheetCells H.size m_toldOnce m_taped m_fault m_broken m_brokenAt m_spot m_here m_token m_value m_silent m_greatest m_moves m_holders m_seenMany m_torn m_state (0 : Int32) o8 hv) (cwV 1 hts gX6_rule_X6_pointOn rfl rfl rfl (by decide +kernel) ⟨Nat.le_of_ble_eq_true rfl, Nat.le_of_ble_eq_true rfl⟩) (z_preV (wc := [(a_m, .inr (6, [.ref a_m_state, .ref a_m_readPage, .int m_toldOnce, .ref a_m_tape, .int m_taped, .int m_fault, .int m_broken, .int m_brokenAt, .int m_spot, .int m_here, .int m_token, .int m_value, .ref a_m_cuts, .ref a_m_letters, .int m_silent, .int m_greatest, .int m_moves, .int m_holders, .ref a_m_seen, .int m_seenMany, .ref a_m_pointBy, .ref a_m_isKept, .ref a_m_lanes, .ref a_m_lengths, .ref a_m_sheetCells, .int m_torn])), (a_m_state, .inl (k 0, 156, .inl m_state))]) [0, 1] 0 6 hK hE hA hP hD hS (by decide) rfl rfl rfl) rfl rfl hl.1 rfl (lv_room (Nat.le_of_ble_eq_true rfl)) dX6_rule_85 ⟨Nat.le_refl _, Nat.le_refl _⟩) hA hP hD hS rfl rfl rfl rfl (fun H locs hP hD hS => ?_)
          have hr := (zs h)
          subst hr
          exact hret H locs ls 88 hP hS dX6_rule_88
        · have h := zif c7 h
          by_cases c9 : u1 = (4 : Int32)
          · have h := zit c9 h
            refine lv_tableIn (off := 88) (tgt := 89) hx hb dX6_rule_1 (by rw [c9]; decide) (by rw [c9]; decide) (by rw [c9]; decide) (by decide) ?_
            refine lv_aload_n hx hb dX6_rule_89 rfl (lv_at hl 0 rfl) ?_
            refine lv_iconst (v := 0) hx hb dX6_rule_90 (by decide) ?_
            obtain ⟨o10, hv, h⟩ := zb h
            refine z_goi (w2 := [(a_m, .inr (6, [.ref a_m_state, .ref a_m_readPage, .int m_toldOnce, .ref a_m_tape, .int m_taped, .int m_fault, .int m_broken, .int m_brokenAt, .int m_spot, .int m_here, .int m_token, .int m_value, .ref a_m_cuts, .ref a_m_letters, .int m_silent, .int m_greatest, .int m_moves, .int m_holders, .ref a_m_seen, .int m_seenMany, .ref a_m_pointBy, .ref a_m_isKept, .ref a_m_lanes, .ref a_m_lengths, .ref a_m_sheetCells, .int m_torn])), (a_m_state, .inl (k 0, 156, .inl m_state))]) [0, 1] (va_runV (As := [.int (0 : Int32)]) (rest := []) ⟨hx, hb, hml, hown, hts⟩ (c_X6_leanOn l G k tL tM sK sV a_m a_m_state a_m_readPage a_m_tape a_m_cuts a_m_letters a_m_seen a_m_pointBy a_m_isKept a_m_lanes a_m_lengths a_m_sheetCells H.size m_toldOnce m_taped m_fault m_broken m_brokenAt m_spot m_here m_token m_value m_silent m_greatest m_moves m_holders m_seenMany m_torn m_state (0 : Int32) o10 hv) (cwV 1 hts gX6_rule_X6_leanOn rfl rfl rfl (by decide +kernel) ⟨Nat.le_of_ble_eq_true rfl, Nat.le_of_ble_eq_true rfl⟩) (z_preV (wc := [(a_m, .inr (6, [.ref a_m_state, .ref a_m_readPage, .int m_toldOnce, .ref a_m_tape, .int m_taped, .int m_fault, .int m_broken, .int m_brokenAt, .int m_spot, .int m_here, .int m_token, .int m_value, .ref a_m_cuts, .ref a_m_letters, .int m_silent, .int m_greatest, .int m_moves, .int m_holders, .ref a_m_seen, .int m_seenMany, .ref a_m_pointBy, .ref a_m_isKept, .ref a_m_lanes, .ref a_m_lengths, .ref a_m_sheetCells, .int m_torn])), (a_m_state, .inl (k 0, 156, .inl m_state))]) [0, 1] 0 6 hK hE hA hP hD hS (by decide) rfl rfl rfl) rfl rfl hl.1 rfl (lv_room (Nat.le_of_ble_eq_true rfl)) dX6_rule_91 ⟨Nat.le_refl _, Nat.le_refl _⟩) hA hP hD hS rfl rfl rfl rfl (fun H locs hP hD hS => ?_)
            have hr := (zs h)
            subst hr
            exact hret H locs ls 94 hP hS dX6_rule_94
          · have h := zif c9 h
            by_cases c11 : u1 = (5 : Int32)
            · have h := zit c11 h
              refine lv_tableIn (off := 94) (tgt := 95) hx hb dX6_rule_1 (by rw [c11]; decide) (by rw [c11]; decide) (by rw [c11]; decide) (by decide) ?_
              refine lv_aload_n hx hb dX6_rule_95 rfl (lv_at hl 0 rfl) ?_
              refine lv_iconst (v := 0) hx hb dX6_rule_96 (by decide) ?_
              obtain ⟨o12, hv, h⟩ := zb h
              refine z_goi (w2 := [(a_m, .inr (6, [.ref a_m_state, .ref a_m_readPage, .int m_toldOnce, .ref a_m_tape, .int m_taped, .int m_fault, .int m_broken, .int m_brokenAt, .int m_spot, .int m_here, .int m_token, .int m_value, .ref a_m_cuts, .ref a_m_letters, .int m_silent, .int m_greatest, .int m_moves, .int m_holders, .ref a_m_seen, .int m_seenMany, .ref a_m_pointBy, .ref a_m_isKept, .ref a_m_lanes, .ref a_m_lengths, .ref a_m_sheetCells, .int m_torn])), (a_m_state, .inl (k 0, 156, .inl m_state))]) [0, 1] (va_runV (As := [.int (0 : Int32)]) (rest := []) ⟨hx, hb, hml, hown, hts⟩ (c_X6_isFallenOn l G k tL tM sK sV a_m a_m_state a_m_readPage a_m_tape a_m_cuts a_m_letters a_m_seen a_m_pointBy a_m_isKept a_m_lanes a_m_lengths a_m_sheetCells H.size m_toldOnce m_taped m_fault m_broken m_brokenAt m_spot m_here m_token m_value m_silent m_greatest m_moves m_holders m_seenMany m_torn m_state (0 : Int32) o12 hv) (cwV 1 hts gX6_rule_X6_isFallenOn rfl rfl rfl (by decide +kernel) ⟨Nat.le_of_ble_eq_true rfl, Nat.le_of_ble_eq_true rfl⟩) (z_preV (wc := [(a_m, .inr (6, [.ref a_m_state, .ref a_m_readPage, .int m_toldOnce, .ref a_m_tape, .int m_taped, .int m_fault, .int m_broken, .int m_brokenAt, .int m_spot, .int m_here, .int m_token, .int m_value, .ref a_m_cuts, .ref a_m_letters, .int m_silent, .int m_greatest, .int m_moves, .int m_holders, .ref a_m_seen, .int m_seenMany, .ref a_m_pointBy, .ref a_m_isKept, .ref a_m_lanes, .ref a_m_lengths, .ref a_m_sheetCells, .int m_torn])), (a_m_state, .inl (k 0, 156, .inl m_state))]) [0, 1] 0 6 hK hE hA hP hD hS (by decide) rfl rfl rfl) rfl rfl hl.1 rfl (lv_room (Nat.le_of_ble_eq_true rfl)) dX6_rule_97 ⟨Nat.le_refl _, Nat.le_refl _⟩) hA hP hD hS rfl rfl rfl rfl (fun H locs hP hD hS => ?_)
              refine lv_if_eq (tgt := 107) hx hb dX6_rule_100 (by decide) (fun c13 => ?_) (fun c13 => ?_)
              · have h := zit c13 h
                refine lv_iconst (v := 0) hx hb dX6_rule_107 (by decide) ?_
                have hr := (zs h)
                subst hr
                exact hret H locs ls 108 hP hS dX6_rule_108
              · have h := zif c13 h
                refine lv_iconst (v := 1) hx hb dX6_rule_103 (by decide) ?_
                refine lv_goto (tgt := 108) hx hb dX6_rule_104 (by decide) ?_
                have hr := (zs h)
                subst hr
                exact hret H locs ls 108 hP hS dX6_rule_108
            · have h := zif c11 h
              by_cases c14 : u1 = (6 : Int32)
              · have h := zit c14 h
                refine lv_tableIn (off := 108) (tgt := 109) hx hb dX6_rule_1 (by rw [c14]; decide) (by rw [c14]; decide) (by rw [c14]; decide) (by decide) ?_
                refine lv_aload_n hx hb dX6_rule_109 rfl (lv_at hl 0 rfl) ?_
                refine lv_iconst (v := 0) hx hb dX6_rule_110 (by decide) ?_
                obtain ⟨o15, hv, h⟩ := zb h
                refine z_goi (w2 := [(a_m, .inr (6, [.ref a_m_state, .ref a_m_readPage, .int m_toldOnce, .ref a_m_tape, .int m_taped, .int m_fault, .int m_broken, .int m_brokenAt, .int m_spot, .int m_here, .int m_token, .int m_value, .ref a_m_cuts, .ref a_m_letters, .int m_silent, .int m_greatest, .int m_moves, .int m_holders, .ref a_m_seen, .int m_seenMany, .ref a_m_pointBy, .ref a_m_isKept, .ref a_m_lanes, .ref a_m_lengths, .ref a_m_sheetCells, .int m_torn])), (a_m_state, .inl (k 0, 156, .inl m_state))]) [0, 1] (va_runV (As := [.int (0 : Int32)]) (rest := []) ⟨hx, hb, hml, hown, hts⟩ (c_X6_holderOn l G k tL tM sK sV a_m a_m_state a_m_readPage a_m_tape a_m_cuts a_m_letters a_m_seen a_m_pointBy a_m_isKept a_m_lanes a_m_lengths a_m_sheetCells H.size m_toldOnce m_taped m_fault m_broken m_brokenAt m_spot m_here m_token m_value m_silent m_greatest m_moves m_holders m_seenMany m_torn m_state (0 : Int32) o15 hv) (cwV 1 hts gX6_rule_X6_holderOn rfl rfl rfl (by decide +kernel) ⟨Nat.le_of_ble_eq_true rfl, Nat.le_of_ble_eq_true rfl⟩) (z_preV (wc := [(a_m, .inr (6, [.ref a_m_state, .ref a_m_readPage, .int m_toldOnce, .ref a_m_tape, .int m_taped, .int m_fault, .int m_broken, .int m_brokenAt, .int m_spot, .int m_here, .int m_token, .int m_value, .ref a_m_cuts, .ref a_m_letters, .int m_silent, .int m_greatest, .int m_moves, .int m_holders, .ref a_m_seen, .int m_seenMany, .ref a_m_pointBy, .ref a_m_isKept, .ref a_m_lanes, .ref a_m_lengths, .ref a_m_sheetCells, .int m_torn])), (a_m_state, .inl (k 0, 156, .inl m_state))]) [0, 1] 0 6 hK hE hA hP hD hS (by decide) rfl rfl rfl) rfl rfl hl.1 rfl (lv_room (Nat.le_of_ble_eq_true rfl)) dX6_rule_111 ⟨Nat.le_refl _, Nat.le_refl _⟩) hA hP hD hS rfl rfl rfl rfl (fun H locs hP hD hS => ?_)
                have hr := (zs h)
                subst hr
                exact hret H locs ls 114 hP hS dX6_rule_114
              · have h := zif c14 h
                by_cases c16 : u1 = (7 : Int32)
                · have h := zit c16 h
                  refine lv_tableIn (off := 114) (tgt := 115) hx hb dX6_rule_1 (by rw [c16]; decide) (by rw [c16]; decide) (by rw [c16]; decide) (by decide) ?_
                  refine lv_aload_n hx hb dX6_rule_115 rfl (lv_at hl 0 rfl) ?_
                  refine lv_iconst (v := 0) hx hb dX6_rule_116 (by decide) ?_
                  obtain ⟨o17, hv, h⟩ := zb h
                  refine z_goi (w2 := [(a_m, .inr (6, [.ref a_m_state, .ref a_m_readPage, .int m_toldOnce, .ref a_m_tape, .int m_taped, .int m_fault, .int m_broken, .int m_brokenAt, .int m_spot, .int m_here, .int m_token, .int m_value, .ref a_m_cuts, .ref a_m_letters, .int m_silent, .int m_greatest, .int m_moves, .int m_holders, .ref a_m_seen, .int m_seenMany, .ref a_m_pointBy, .ref a_m_isKept, .ref a_m_lanes, .ref a_m_lengths, .ref a_m_sheetCells, .int m_torn])), (a_m_state, .inl (k 0, 156, .inl m_state))]) [0, 1] (va_runV (As := [.int (0 : Int32)]) (rest := []) ⟨hx, hb, hml, hown, hts⟩ (c_X6_backOn l G k tL tM sK sV a_m a_m_state a_m_readPage a_m_tape a_m_cuts a_m_letters a_m_seen a_m_pointBy a_m_isKept a_m_lanes a_m_lengths a_m_sheetCells H.size m_toldOnce m_taped m_fault m_broken m_brokenAt m_spot m_here m_token m_value m_silent m_greatest m_moves m_holders m_seenMany m_torn m_state (0 : Int32) o17 hv) (cwV 1 hts gX6_rule_X6_backOn rfl rfl rfl (by decide +kernel) ⟨Nat.le_of_ble_eq_true rfl, Nat.le_of_ble_eq_true rfl⟩) (z_preV (wc := [(a_m, .inr (6, [.ref a_m_state, .ref a_m_readPage, .int m_toldOnce, .ref a_m_tape, .int m_taped, .int m_fault, .int m_broken, .int m_brokenAt, .int m_spot, .int m_here, .int m_token, .int m_value, .ref a_m_cuts, .ref a_m_letters, .int m_silent, .int m_greatest, .int m_moves, .int m_holders, .ref a_m_seen, .int m_seenMany, .ref a_m_pointBy, .ref a_m_isKept, .ref a_m_lanes, .ref a_m_lengths, .ref a_m_sheetCells, .int m_torn])), (a_m_state, .inl (k 0, 156, .inl m_state))]) [0, 1] 0 6 hK hE hA hP hD hS (by decide) rfl rfl rfl) rfl rfl hl.1 rfl (lv_room (Nat.le_of_ble_eq_true rfl)) dX6_rule_117 ⟨Nat.le_refl _, Nat.le_refl _⟩) hA hP hD hS rfl rfl rfl rfl (fun H locs hP hD hS => ?_)
                  have hr := (zs h)
                  subst hr
                  exact hret H locs ls 120 hP hS dX6_rule_120
                · have h := zif c16 h
                  by_cases c18 : u1 = (8 : Int32)
                  · have h := zit c18 h
                    refine lv_tableIn (off := 120) (tgt := 121) hx hb dX6_rule_1 (by rw [c18]; decide) (by rw [c18]; decide) (by rw [c18]; decide) (by decide) ?_
                    refine lv_aload_n hx hb dX6_rule_121 rfl (lv_at hl 0 rfl) ?_
                    refine va_get (D := G) (ci := 6) (v := .ref a_m_state) (C := RX6) (T := TX6) (N := 26) hx hb hts iw_X6_rule_X6 hown hK hP 0 rfl rfl 0 (by decide) (hts (.fieldLink RX6 7 "SpireLeanModel" "state" "[I") (List.mem_of_getElem? (i := 1) rfl)) (fun _ h9 => h9) rfl dX6_rule_122 ?_
                    refine lv_bipush (v := 23) hx hb dX6_rule_125 (by decide) ?_
                    obtain ⟨v19, hv, h⟩ := zb h
                    refine z_iald hx hb hK hP 1 0 rfl rfl hv dX6_rule_127 ?_
                    refine lv_iconst (v := 2) hx hb dX6_rule_128 (by decide) ?_
                    refine lv_iadd hx hb dX6_rule_129 ?_
                    have hr := (zs h)
                    subst hr
                    exact hret H locs ls 130 hP hS dX6_rule_130
                  · have h := zif c18 h
                    by_cases c20 : u1 = (9 : Int32)
                    · have h := zit c20 h
                      refine lv_tableIn (off := 130) (tgt := 131) hx hb dX6_rule_1 (by rw [c20]; decide) (by rw [c20]; decide) (by rw [c20]; decide) (by decide) ?_
                      refine lv_aload_n hx hb dX6_rule_131 rfl (lv_at hl 0 rfl) ?_
                      refine va_get (D := G) (ci := 6) (v := .ref a_m_state) (C := RX6) (T := TX6) (N := 26) hx hb hts iw_X6_rule_X6 hown hK hP 0 rfl rfl 0 (by decide) (hts (.fieldLink RX6 7 "SpireLeanModel" "state" "[I") (List.mem_of_getElem? (i := 1) rfl)) (fun _ h9 => h9) rfl dX6_rule_132 ?_
                      refine lv_bipush (v := 24) hx hb dX6_rule_135 (by decide) ?_
                      obtain ⟨v21, hv, h⟩ := zb h
                      refine z_iald hx hb hK hP 1 0 rfl rfl hv dX6_rule_137 ?_
                      refine lv_bipush (v := 9) hx hb dX6_rule_138 (by decide) ?_
                      refine lv_iadd hx hb dX6_rule_140 ?_
                      have hr := (zs h)
                      subst hr
                      exact hret H locs ls 141 hP hS dX6_rule_141
                    · have h := zif c20 h
                      have hw : (u1).toInt < 0 ∨ 9 < (u1).toInt := by
                        have e0 : (u1).toInt ≠ 0 := fun q => c1 (Int32.toInt_inj.mp q)
                        have e1 : (u1).toInt ≠ 1 := fun q => c3 (Int32.toInt_inj.mp q)
                        have e2 : (u1).toInt ≠ 2 := fun q => c5 (Int32.toInt_inj.mp q)
                        have e3 : (u1).toInt ≠ 3 := fun q => c7 (Int32.toInt_inj.mp q)
                        have e4 : (u1).toInt ≠ 4 := fun q => c9 (Int32.toInt_inj.mp q)
                        have e5 : (u1).toInt ≠ 5 := fun q => c11 (Int32.toInt_inj.mp q)
                        have e6 : (u1).toInt ≠ 6 := fun q => c14 (Int32.toInt_inj.mp q)
                        have e7 : (u1).toInt ≠ 7 := fun q => c16 (Int32.toInt_inj.mp q)
                        have e8 : (u1).toInt ≠ 8 := fun q => c18 (Int32.toInt_inj.mp q)
                        have e9 : (u1).toInt ≠ 9 := fun q => c20 (Int32.toInt_inj.mp q)
                        omega
                      refine lv_tableOut (tgt := 142) hx hb dX6_rule_1 hw (by decide) ?_
                      refine lv_iconst (v := (-1)) hx hb dX6_rule_142 (by decide) ?_
                      have hr := (zs h)
                      subst hr
                      exact hret H locs ls 143 hP hS dX6_rule_143
theorem iw_X6_draw_X6 : ∀ w ∈ wsX60, w ∈ wsX6_draw := fun _ h => List.mem_cons_of_mem _ (List.mem_append_right _ h)
set_option maxHeartbeats 4000000 in
set_option maxRecDepth 100000 in
theorem c_X6_draw (l : Launch) (G : va_G) (k : Nat → ClassId) (tL tM : Nat) (sK sV : Nat → Nat) (a_m : Nat) (a_m_state : Nat) (a_m_readPage : Nat) (a_m_tape : Nat) (a_m_cuts : Nat) (a_m_letters : Nat) (a_m_seen : Nat) (a_m_pointBy : Nat) (a_m_isKept : Nat) (a_m_lanes : Nat) (a_m_lengths : Nat) (a_m_sheetCells : Nat) (sz : Nat) (m_toldOnce : Int32) (m_taped : Int32) (m_fault : Int32) (m_broken : Int32) (m_brokenAt : Int32) (m_spot : Int32) (m_here : Int32) (m_token : Int32) (m_value : Int32) (m_silent : Int32) (m_greatest : Int32) (m_moves : Int32) (m_holders : Int32) (m_seenMany : Int32) (m_torn : Int32) (m_state : Nat → Int32) (u1 : Int32) (u2 : Int32) (out : Int32) (h : p_X6_draw u1 u2 m_silent m_state = some out) : zMi l yX6_draw wsX6_draw 3 64 G k tL tM sK sV [.ref a_m, .int u1, .int u2] [(a_m, .inr (6, [.ref a_m_state, .ref a_m_readPage, .int m_toldOnce, .ref a_m_tape, .int m_taped, .int m_fault, .int m_broken, .int m_brokenAt, .int m_spot, .int m_here, .int m_token, .int m_value, .ref a_m_cuts, .ref a_m_letters, .int m_silent, .int m_greatest, .int m_moves, .int m_holders, .ref a_m_seen, .int m_seenMany, .ref a_m_pointBy, .ref a_m_isKept, .ref a_m_lanes, .ref a_m_lengths, .ref a_m_sheetCells, .int m_torn])), (a_m_state, .inl (k 0, 156, .inl m_state))] [(a_m, .inr (6, [.ref a_m_state, .ref a_m_readPage, .int m_toldOnce, .ref a_m_tape, .int m_taped, .int m_fault, .int m_broken, .int m_brokenAt, .int m_spot, .int m_here, .int m_token, .int m_value, .ref a_m_cuts, .ref a_m_letters, .int m_silent, .int m_greatest, .int m_moves, .int m_holders, .ref a_m_seen, .int m_seenMany, .ref a_m_pointBy, .ref a_m_isKept, .ref a_m_lanes, .ref a_m_lengths, .ref a_m_sheetCells, .int m_torn])), (a_m_state, .inl (k 0, 156, .inl m_state))] out sz := by
  refine z_meti (cc := cX6_draw) (maxL := 3) (by decide) rfl (Nat.le_of_ble_eq_true rfl) ?_
  intro p e s m below meth c A Q H locs ls hx hb hml hts hown hA hK hE hret hP hD hS hl
  have hown : s.vm.findClass RX6 = some m.cls := hown
  have hl : lv_has ls 3 [(0, .ref a_m), (1, .int u1), (2, .int u2)] := hl
  unfold p_X6_draw at h
  refine lv_aload_n hx hb dX6_draw_0 rfl (lv_at hl 0 rfl) ?_
  refine lv_iload_n hx hb dX6_draw_1 rfl (lv_at hl 1 rfl) ?_
  obtain ⟨o1, hv, h⟩ := zb h
  refine z_goi (w2 := [(a_m, .inr (6, [.ref a_m_state, .ref a_m_readPage, .int m_toldOnce, .ref a_m_tape, .int m_taped, .int m_fault, .int m_broken, .int m_brokenAt, .int m_spot, .int m_here, .int m_token, .int m_value, .ref a_m_cuts, .ref a_m_letters, .int m_silent, .int m_greatest, .int m_moves, .int m_holders, .ref a_m_seen, .int m_seenMany, .ref a_m_pointBy, .ref a_m_isKept, .ref a_m_lanes, .ref a_m_lengths, .ref a_m_sheetCells, .int m_torn])), (a_m_state, .inl (k 0, 156, .inl m_state))]) [0, 1] (va_runV (As := [.int u1]) (rest := []) ⟨hx, hb, hml, hown, hts⟩ (c_X6_isDraw l G k tL tM sK sV a_m a_m_state a_m_readPage a_m_tape a_m_cuts a_m_letters a_m_seen a_m_pointBy a_m_isKept a_m_lanes a_m_lengths a_m_sheetCells H.size m_toldOnce m_taped m_fault m_broken m_brokenAt m_spot m_here m_token m_value m_silent m_greatest m_moves m_holders m_seenMany m_torn m_state u1 o1 hv) (cwV 1 hts gX6_draw_X6_isDraw rfl rfl rfl (by decide +kernel) ⟨Nat.le_of_ble_eq_true rfl, Nat.le_of_ble_eq_true rfl⟩) (z_preV (wc := [(a_m, .inr (6, [.ref a_m_state, .ref a_m_readPage, .int m_toldOnce, .ref a_m_tape, .int m_taped, .int m_fault, .int m_broken, .int m_brokenAt, .int m_spot, .int m_here, .int m_token, .int m_value, .ref a_m_cuts, .ref a_m_letters, .int m_silent, .int m_greatest, .int m_moves, .int m_holders, .ref a_m_seen, .int m_seenMany, .ref a_m_pointBy, .ref a_m_isKept, .ref a_m_lanes, .ref a_m_lengths, .ref a_m_sheetCells, .int m_torn])), (a_m_state, .inl (k 0, 156, .inl m_state))]) [0, 1] 0 6 hK hE hA hP hD hS (by decide) rfl rfl rfl) rfl rfl hl.1 rfl (lv_room (Nat.le_of_ble_eq_true rfl)) dX6_draw_2 ⟨Nat.le_refl _, Nat.le_refl _⟩) hA hP hD hS rfl rfl rfl rfl (fun H locs hP hD hS => ?_)
  refine lv_if_eq (tgt := 20) hx hb dX6_draw_5 (by decide) (fun c13 => ?_) (fun c13 => ?_)
  · have h := zit c13 h
    refine lv_iconst (v := (-1)) hx hb dX6_draw_20 (by decide) ?_
    have hr := (zs h)
    subst hr
    exact hret H locs ls 21 hP hS dX6_draw_21
  · have h := zif c13 h
    refine lv_iload_n hx hb dX6_draw_8 rfl (lv_at hl 2 rfl) ?_
    refine lv_i2l (v := u2.toInt64) hx hb dX6_draw_9 rfl ?_
    refine lv_lconst (v := 0) hx hb dX6_draw_10 (by decide) ?_
    refine lv_ldc2 hx hb hown (hts (.constantLong RX6 102 (6)) (List.mem_of_getElem? (i := 1) rfl)) dX6_draw_11 ?_
    obtain ⟨o2, hv, h⟩ := zb h
    refine z_goi (w2 := [(a_m, .inr (6, [.ref a_m_state, .ref a_m_readPage, .int m_toldOnce, .ref a_m_tape, .int m_taped, .int m_fault, .int m_broken, .int m_brokenAt, .int m_spot, .int m_here, .int m_token, .int m_value, .ref a_m_cuts, .ref a_m_letters, .int m_silent, .int m_greatest, .int m_moves, .int m_holders, .ref a_m_seen, .int m_seenMany, .ref a_m_pointBy, .ref a_m_isKept, .ref a_m_lanes, .ref a_m_lengths, .ref a_m_sheetCells, .int m_torn])), (a_m_state, .inl (k 0, 156, .inl m_state))]) [] (va_runS (As := [.long u2.toInt64, .long (0 : Int64), .long (6 : Int64)]) (rest := []) ⟨hx, hb, hml, hown, hts⟩ (c_X6_in l G k tL tM sK sV H.size u2.toInt64 (0 : Int64) (6 : Int64) o2 hv) (va_cwS 3 hts gX6_draw_X6_in rfl rfl rfl (by decide +kernel) ⟨Nat.le_of_ble_eq_true rfl, Nat.le_of_ble_eq_true rfl⟩) (z_preS (wc := []) [] hK hE hA hP hD hS (by decide) rfl) rfl rfl hl.1 rfl (lv_room (Nat.le_of_ble_eq_true rfl)) dX6_draw_14 ⟨Nat.le_refl _, Nat.le_refl _⟩) hA hP hD hS rfl rfl rfl rfl (fun H locs hP hD hS => ?_)
    refine lv_if_ne (tgt := 22) hx hb dX6_draw_17 (by decide) (fun c12 => ?_) (fun c12 => ?_)
    · have h := zif c12 h
      refine lv_iload_n hx hb dX6_draw_22 rfl (lv_at hl 2 rfl) ?_
      refine lv_iconst (v := 4) hx hb dX6_draw_23 (by decide) ?_
      refine lv_icmp_ge (tgt := 40) hx hb dX6_draw_24 (by decide) (fun c11 => ?_) (fun c11 => ?_)
      · have h := zit c11 h
        refine lv_iload_n hx hb dX6_draw_40 rfl (lv_at hl 2 rfl) ?_
        refine lv_iconst (v := 4) hx hb dX6_draw_41 (by decide) ?_
        refine lv_icmp_ne (tgt := 54) hx hb dX6_draw_42 (by decide) (fun c9 => ?_) (fun c9 => ?_)
        · have h := zif c9 h
          refine lv_iload_n hx hb dX6_draw_54 rfl (lv_at hl 2 rfl) ?_
          refine lv_iconst (v := 5) hx hb dX6_draw_55 (by decide) ?_
          refine lv_icmp_ne (tgt := 68) hx hb dX6_draw_56 (by decide) (fun c7 => ?_) (fun c7 => ?_)
          · have h := zif c7 h
            refine lv_aload_n hx hb dX6_draw_68 rfl (lv_at hl 0 rfl) ?_
            refine va_get (D := G) (ci := 6) (v := .ref a_m_state) (C := RX6) (T := TX6) (N := 26) hx hb hts iw_X6_draw_X6 hown hK hP 0 rfl rfl 0 (by decide) (hts (.fieldLink RX6 7 "SpireLeanModel" "state" "[I") (List.mem_of_getElem? (i := 2) rfl)) (fun _ h9 => h9) rfl dX6_draw_69 ?_
            refine lv_bipush (v := 10) hx hb dX6_draw_72 (by decide) ?_
            refine lv_iload_n hx hb dX6_draw_74 rfl (lv_at hl 1 rfl) ?_
            refine lv_iadd hx hb dX6_draw_75 ?_
            obtain ⟨v3, hv, h⟩ := zb h
            refine z_iald hx hb hK hP 1 0 rfl rfl hv dX6_draw_76 ?_
            refine lv_aload_n hx hb dX6_draw_77 rfl (lv_at hl 0 rfl) ?_
            refine lv_iconst (v := 0) hx hb dX6_draw_78 (by decide) ?_
            obtain ⟨o4, hv, h⟩ := zb h
            refine z_goi (w2 := [(a_m, .inr (6, [.ref a_m_state, .ref a_m_readPage, .int m_toldOnce, .ref a_m_tape, .int m_taped, .int m_fault, .int m_broken, .int m_brokenAt, .int m_spot, .int m_here, .int m_token, .int m_value, .ref a_m_cuts, .ref a_m_letters, .int m_silent, .int m_greatest, .int m_moves, .int m_holders, .ref a_m_seen, .int m_seenMany, .ref a_m_pointBy, .ref a_m_isKept, .ref a_m_lanes, .ref a_m_lengths, .ref a_m_sheetCells, .int m_torn])), (a_m_state, .inl (k 0, 156, .inl m_state))]) [0, 1] (va_runV (As := [.int (0 : Int32)]) (rest := [.int v3]) ⟨hx, hb, hml, hown, hts⟩ (c_X6_pointOn l G k tL tM sK sV a_m a_m_state a_m_readPage a_m_tape a_m_cuts a_m_letters a_m_seen a_m_pointBy a_m_isKept a_m_lanes a_m_lengths a_m_sheetCells H.size m_toldOnce m_taped m_fault m_broken m_brokenAt m_spot m_here m_token m_value m_silent m_greatest m_moves m_holders m_seenMany m_torn m_state (0 : Int32) o4 hv) (cwV 1 hts gX6_draw_X6_pointOn rfl rfl rfl (by decide +kernel) ⟨Nat.le_of_ble_eq_true rfl, Nat.le_of_ble_eq_true rfl⟩) (z_preV (wc := [(a_m, .inr (6, [.ref a_m_state, .ref a_m_readPage, .int m_toldOnce, .ref a_m_tape, .int m_taped, .int m_fault, .int m_broken, .int m_brokenAt, .int m_spot, .int m_here, .int m_token, .int m_value, .ref a_m_cuts, .ref a_m_letters, .int m_silent, .int m_greatest, .int m_moves, .int m_holders, .ref a_m_seen, .int m_seenMany, .ref a_m_pointBy, .ref a_m_isKept, .ref a_m_lanes, .ref a_m_lengths, .ref a_m_sheetCells, .int m_torn])), (a_m_state, .inl (k 0, 156, .inl m_state))]) [0, 1] 0 6 hK hE hA hP hD hS (by decide) rfl rfl rfl) rfl rfl hl.1 rfl (lv_room (Nat.le_of_ble_eq_true rfl)) dX6_draw_79 ⟨Nat.le_refl _, Nat.le_refl _⟩) hA hP hD hS rfl rfl rfl rfl (fun H locs hP hD hS => ?_)
            obtain ⟨o5, hv, h⟩ := zb h
            refine z_goi (w2 := [(a_m, .inr (6, [.ref a_m_state, .ref a_m_readPage, .int m_toldOnce, .ref a_m_tape, .int m_taped, .int m_fault, .int m_broken, .int m_brokenAt, .int m_spot, .int m_here, .int m_token, .int m_value, .ref a_m_cuts, .ref a_m_letters, .int m_silent, .int m_greatest, .int m_moves, .int m_holders, .ref a_m_seen, .int m_seenMany, .ref a_m_pointBy, .ref a_m_isKept, .ref a_m_lanes, .ref a_m_lengths, .ref a_m_sheetCells, .int m_torn])), (a_m_state, .inl (k 0, 156, .inl m_state))]) [] (va_runS (As := [.int v3, .int o4]) (rest := []) ⟨hx, hb, hml, hown, hts⟩ (c_X6_farOf l G k tL tM sK sV H.size v3 o4 o5 hv) (va_cwS 2 hts gX6_draw_X6_farOf rfl rfl rfl (by decide +kernel) ⟨Nat.le_of_ble_eq_true rfl, Nat.le_of_ble_eq_true rfl⟩) (z_preS (wc := []) [] hK hE hA hP hD hS (by decide) rfl) rfl rfl hl.1 rfl (lv_room (Nat.le_of_ble_eq_true rfl)) dX6_draw_82 ⟨Nat.le_refl _, Nat.le_refl _⟩) hA hP hD hS rfl rfl rfl rfl (fun H locs hP hD hS => ?_)
            have hr := (zs h)
            subst hr
            exact hret H locs ls 85 hP hS dX6_draw_85
          · have h := zit c7 h
            refine lv_aload_n hx hb dX6_draw_59 rfl (lv_at hl 0 rfl) ?_
            refine lv_iconst (v := 0) hx hb dX6_draw_60 (by decide) ?_
            refine lv_iload_n hx hb dX6_draw_61 rfl (lv_at hl 1 rfl) ?_
            obtain ⟨o6, hv, h⟩ := zb h
            refine z_goi (w2 := [(a_m, .inr (6, [.ref a_m_state, .ref a_m_readPage, .int m_toldOnce, .ref a_m_tape, .int m_taped, .int m_fault, .int m_broken, .int m_brokenAt, .int m_spot, .int m_here, .int m_token, .int m_value, .ref a_m_cuts, .ref a_m_letters, .int m_silent, .int m_greatest, .int m_moves, .int m_holders, .ref a_m_seen, .int m_seenMany, .ref a_m_pointBy, .ref a_m_isKept, .ref a_m_lanes, .ref a_m_lengths, .ref a_m_sheetCells, .int m_torn])), (a_m_state, .inl (k 0, 156, .inl m_state))]) [0, 1] (va_runV (As := [.int (0 : Int32), .int u1]) (rest := []) ⟨hx, hb, hml, hown, hts⟩ (c_X6_forceOn l G k tL tM sK sV a_m a_m_state a_m_readPage a_m_tape a_m_cuts a_m_letters a_m_seen a_m_pointBy a_m_isKept a_m_lanes a_m_lengths a_m_sheetCells H.size m_toldOnce m_taped m_fault m_broken m_brokenAt m_spot m_here m_token m_value m_silent m_greatest m_moves m_holders m_seenMany m_torn m_state (0 : Int32) u1 o6 hv) (cwV 2 hts gX6_draw_X6_forceOn rfl rfl rfl (by decide +kernel) ⟨Nat.le_of_ble_eq_true rfl, Nat.le_of_ble_eq_true rfl⟩) (z_preV (wc := [(a_m, .inr (6, [.ref a_m_state, .ref a_m_readPage, .int m_toldOnce, .ref a_m_tape, .int m_taped, .int m_fault, .int m_broken, .int m_brokenAt, .int m_spot, .int m_here, .int m_token, .int m_value, .ref a_m_cuts, .ref a_m_letters, .int m_silent, .int m_greatest, .int m_moves, .int m_holders, .ref a_m_seen, .int m_seenMany, .ref a_m_pointBy, .ref a_m_isKept, .ref a_m_lanes, .ref a_m_lengths, .ref a_m_sheetCells, .int m_torn])), (a_m_state, .inl (k 0, 156, .inl m_state))]) [0, 1] 0 6 hK hE hA hP hD hS (by decide) rfl rfl rfl) rfl rfl hl.1 rfl (lv_room (Nat.le_of_ble_eq_true rfl)) dX6_draw_62 ⟨Nat.le_refl _, Nat.le_refl _⟩) hA hP hD hS rfl rfl rfl rfl (fun H locs hP hD hS => ?_)
            refine lv_goto (tgt := 85) hx hb dX6_draw_65 (by decide) ?_
            have hr := (zs h)
            subst hr
            exact hret H locs ls 85 hP hS dX6_draw_85
        · have h := zit c9 h
          refine lv_aload_n hx hb dX6_draw_45 rfl (lv_at hl 0 rfl) ?_
          refine lv_iconst (v := 0) hx hb dX6_draw_46 (by decide) ?_
          refine lv_iload_n hx hb dX6_draw_47 rfl (lv_at hl 1 rfl) ?_
          obtain ⟨o8, hv, h⟩ := zb h
          refine z_goi (w2 := [(a_m, .inr (6, [.ref a_m_state, .ref a_m_readPage, .int m_toldOnce, .ref a_m_tape, .int m_taped, .int m_fault, .int m_broken, .int m_brokenAt, .int m_spot, .int m_here, .int m_token, .int m_value, .ref a_m_cuts, .ref a_m_letters, .int m_silent, .int m_greatest, .int m_moves, .int m_holders, .ref a_m_seen, .int m_seenMany, .ref a_m_pointBy, .ref a_m_isKept, .ref a_m_lanes, .ref a_m_lengths, .ref a_m_sheetCells, .int m_torn])), (a_m_state, .inl (k 0, 156, .inl m_state))]) [0, 1] (va_runV (As := [.int (0 : Int32), .int u1]) (rest := []) ⟨hx, hb, hml, hown, hts⟩ (c_X6_strengthOn l G k tL tM sK sV a_m a_m_state a_m_readPage a_m_tape a_m_cuts a_m_letters a_m_seen a_m_pointBy a_m_isKept a_m_lanes a_m_lengths a_m_sheetCells H.size m_toldOnce m_taped m_fault m_broken m_brokenAt m_spot m_here m_token m_value m_silent m_greatest m_moves m_holders m_seenMany m_torn m_state (0 : Int32) u1 o8 hv) (cwV 2 hts gX6_draw_X6_strengthOn rfl rfl rfl (by decide +kernel) ⟨Nat.le_of_ble_eq_true rfl, Nat.le_of_ble_eq_true rfl⟩) (z_preV (wc := [(a_m, .inr (6, [.ref a_m_state, .ref a_m_readPage, .int m_toldOnce, .ref a_m_tape, .int m_taped, .int m_fault, .int m_broken, .int m_brokenAt, .int m_spot, .int m_here, .int m_token, .int m_value, .ref a_m_cuts, .ref a_m_letters, .int m_silent, .int m_greatest, .int m_moves, .int m_holders, .ref a_m_seen, .int m_seenMany, .ref a_m_pointBy, .ref a_m_isKept, .ref a_m_lanes, .ref a_m_lengths, .ref a_m_sheetCells, .int m_torn])), (a_m_state, .inl (k 0, 156, .inl m_state))]) [0, 1] 0 6 hK hE hA hP hD hS (by decide) rfl rfl rfl) rfl rfl hl.1 rfl (lv_room (Nat.le_of_ble_eq_true rfl)) dX6_draw_48 ⟨Nat.le_refl _, Nat.le_refl _⟩) hA hP hD hS rfl rfl rfl rfl (fun H locs hP hD hS => ?_)
          refine lv_goto (tgt := 85) hx hb dX6_draw_51 (by decide) ?_
          have hr := (zs h)
          subst hr
          exact hret H locs ls 85 hP hS dX6_draw_85
      · have h := zif c11 h
        refine lv_aload_n hx hb dX6_draw_27 rfl (lv_at hl 0 rfl) ?_
        refine va_get (D := G) (ci := 6) (v := .ref a_m_state) (C := RX6) (T := TX6) (N := 26) hx hb hts iw_X6_draw_X6 hown hK hP 0 rfl rfl 0 (by decide) (hts (.fieldLink RX6 7 "SpireLeanModel" "state" "[I") (List.mem_of_getElem? (i := 2) rfl)) (fun _ h9 => h9) rfl dX6_draw_28 ?_
        refine lv_iconst (v := 5) hx hb dX6_draw_31 (by decide) ?_
        refine lv_iload_n hx hb dX6_draw_32 rfl (lv_at hl 2 rfl) ?_
        refine lv_imul hx hb dX6_draw_33 ?_
        refine lv_iload_n hx hb dX6_draw_34 rfl (lv_at hl 1 rfl) ?_
        refine lv_iadd hx hb dX6_draw_35 ?_
        obtain ⟨v10, hv, h⟩ := zb h
        refine z_iald hx hb hK hP 1 0 rfl rfl hv dX6_draw_36 ?_
        refine lv_goto (tgt := 85) hx hb dX6_draw_37 (by decide) ?_
        have hr := (zs h)
        subst hr
        exact hret H locs ls 85 hP hS dX6_draw_85
    · have h := zit c12 h
      refine lv_iconst (v := (-1)) hx hb dX6_draw_20 (by decide) ?_
      have hr := (zs h)
      subst hr
      exact hret H locs ls 21 hP hS dX6_draw_21
theorem iw_X6_puts_X6 : ∀ w ∈ wsX60, w ∈ wsX6_puts := fun _ h => List.mem_cons_of_mem _ (List.mem_append_right _ h)
set_option maxHeartbeats 4000000 in
set_option maxRecDepth 100000 in
theorem c_X6_puts (l : Launch) (G : va_G) (k : Nat → ClassId) (tL tM : Nat) (sK sV : Nat → Nat) (a_m : Nat) (a_m_state : Nat) (a_m_readPage : Nat) (a_m_tape : Nat) (a_m_cuts : Nat) (a_m_letters : Nat) (a_m_seen : Nat) (a_m_pointBy : Nat) (a_m_isKept : Nat) (a_m_lanes : Nat) (a_m_lengths : Nat) (a_m_sheetCells : Nat) (sz : Nat) (m_toldOnce : Int32) (m_taped : Int32) (m_fault : Int32) (m_broken : Int32) (m_brokenAt : Int32) (m_spot : Int32) (m_here : Int32) (m_token : Int32) (m_value : Int32) (m_silent : Int32) (m_greatest : Int32) (m_moves : Int32) (m_holders : Int32) (m_seenMany : Int32) (m_torn : Int32) (m_state : Nat → Int32) (u1 : Int32) (u2 : Int32) (u3 : Int32) (u4 : Int32) (out : Int32 × (Nat → Int32)) (h : p_X6_puts u1 u2 u3 u4 m_state = some out) : zMi l yX6_puts wsX6_puts 0 0 G k tL tM sK sV [.ref a_m, .int u1, .int u2, .int u3, .int u4] [(a_m, .inr (6, [.ref a_m_state, .ref a_m_readPage, .int m_toldOnce, .ref a_m_tape, .int m_taped, .int m_fault, .int m_broken, .int m_brokenAt, .int m_spot, .int m_here, .int m_token, .int m_value, .ref a_m_cuts, .ref a_m_letters, .int m_silent, .int m_greatest, .int m_moves, .int m_holders, .ref a_m_seen, .int m_seenMany, .ref a_m_pointBy, .ref a_m_isKept, .ref a_m_lanes, .ref a_m_lengths, .ref a_m_sheetCells, .int m_torn])), (a_m_state, .inl (k 0, 156, .inl m_state))] [(a_m, .inr (6, [.ref a_m_state, .ref a_m_readPage, .int m_toldOnce, .ref a_m_tape, .int m_taped, .int m_fault, .int m_broken, .int m_brokenAt, .int m_spot, .int m_here, .int m_token, .int m_value, .ref a_m_cuts, .ref a_m_letters, .int m_silent, .int m_greatest, .int m_moves, .int m_holders, .ref a_m_seen, .int m_seenMany, .ref a_m_pointBy, .ref a_m_isKept, .ref a_m_lanes, .ref a_m_lengths, .ref a_m_sheetCells, .int m_torn])), (a_m_state, .inl (k 0, 156, .inl out.2))] out.1 sz := by
  refine z_meti (cc := cX6_puts) (maxL := 6) (by decide) rfl (Nat.le_of_ble_eq_true rfl) ?_
  intro p e s m below meth c A Q H locs ls hx hb hml hts hown hA hK hE hret hP hD hS hl
  have hown : s.vm.findClass RX6 = some m.cls := hown
  have hl : lv_has ls 6 [(0, .ref a_m), (1, .int u1), (2, .int u2), (3, .int u3), (4, .int u4)] := hl
  unfold p_X6_puts at h
  refine lv_iload_n hx hb dX6_puts_0 rfl (lv_at hl 1 rfl) ?_
  refine lv_if_ne (tgt := 6) hx hb dX6_puts_1 (by decide) (fun c3 => ?_) (fun c3 => ?_)
  · have h := zif c3 h
    refine lv_aload_n hx hb dX6_puts_6 rfl (lv_at hl 0 rfl) ?_
    refine va_get (D := G) (ci := 6) (v := .ref a_m_state) (C := RX6) (T := TX6) (N := 26) hx hb hts iw_X6_puts_X6 hown hK hP 0 rfl rfl 0 (by decide) (hts (.fieldLink RX6 7 "SpireLeanModel" "state" "[I") (List.mem_of_getElem? (i := 1) rfl)) (fun _ h9 => h9) rfl dX6_puts_7 ?_
    refine lv_iload_n hx hb dX6_puts_10 rfl (lv_at hl 2 rfl) ?_
    obtain ⟨v1, hv, h⟩ := zb h
    refine z_iald hx hb hK hP 1 0 rfl rfl hv dX6_puts_11 ?_
    refine lv_iload hx hb dX6_puts_12 (lv_at hl 4 rfl) ?_
    refine lv_iadd hx hb dX6_puts_14 ?_
    refine lv_istore (lv' := [(5, .int (v1 + u4)), (0, .ref a_m), (1, .int u1), (2, .int u2), (3, .int u3), (4, .int u4)]) hx hb dX6_puts_15 hl (by decide) rfl (fun ls hl => ?_)
    refine lv_aload_n hx hb dX6_puts_17 rfl (lv_at hl 1 rfl) ?_
    refine va_get (D := G) (ci := 6) (v := .ref a_m_state) (C := RX6) (T := TX6) (N := 26) hx hb hts iw_X6_puts_X6 hown hK hP 0 rfl rfl 0 (by decide) (hts (.fieldLink RX6 7 "SpireLeanModel" "state" "[I") (List.mem_of_getElem? (i := 1) rfl)) (fun _ h9 => h9) rfl dX6_puts_18 ?_
    refine lv_iload_n hx hb dX6_puts_21 rfl (lv_at hl 3 rfl) ?_
    refine lv_iload_n hx hb dX6_puts_22 rfl (lv_at hl 4 rfl) ?_
    refine lv_iload hx hb dX6_puts_23 (lv_at hl 5 rfl) ?_
    refine lv_isub hx hb dX6_puts_25 ?_
    obtain ⟨v2, hv, h⟩ := zb h
    refine z_iast hx hb hK hP hD hS 1 0 rfl rfl hv dX6_puts_26 (fun H locs hP hD hS => ?_)
    have hP : va_P G vwCl [(a_m, .inr (6, [.ref a_m_state, .ref a_m_readPage, .int m_toldOnce, .ref a_m_tape, .int m_taped, .int m_fault, .int m_broken, .int m_brokenAt, .int m_spot, .int m_here, .int m_token, .int m_value, .ref a_m_cuts, .ref a_m_letters, .int m_silent, .int m_greatest, .int m_moves, .int m_holders, .ref a_m_seen, .int m_seenMany, .ref a_m_pointBy, .ref a_m_isKept, .ref a_m_lanes, .ref a_m_lengths, .ref a_m_sheetCells, .int m_torn])), (a_m_state, .inl (k 0, 156, .inl v2))] H := hP
    have hD : va_D A [(a_m, .inr (6, [.ref a_m_state, .ref a_m_readPage, .int m_toldOnce, .ref a_m_tape, .int m_taped, .int m_fault, .int m_broken, .int m_brokenAt, .int m_spot, .int m_here, .int m_token, .int m_value, .ref a_m_cuts, .ref a_m_letters, .int m_silent, .int m_greatest, .int m_moves, .int m_holders, .ref a_m_seen, .int m_seenMany, .ref a_m_pointBy, .ref a_m_isKept, .ref a_m_lanes, .ref a_m_lengths, .ref a_m_sheetCells, .int m_torn])), (a_m_state, .inl (k 0, 156, .inl v2))] := hD
    refine lv_iload hx hb dX6_puts_27 (lv_at hl 0 rfl) ?_
    have hr := (zs h)
    subst hr
    exact hret H locs ls 29 hP hS dX6_puts_29
  · have h := zit c3 h
    refine lv_iconst (v := (-1)) hx hb dX6_puts_4 (by decide) ?_
    have hr := (zs h)
    subst hr
    exact hret H locs ls 5 hP hS dX6_puts_5
set_option maxHeartbeats 4000000 in
set_option maxRecDepth 100000 in
theorem c_X6_alters (l : Launch) (G : va_G) (k : Nat → ClassId) (tL tM : Nat) (sK sV : Nat → Nat) (a_m : Nat) (a_m_state : Nat) (a_m_readPage : Nat) (a_m_tape : Nat) (a_m_cuts : Nat) (a_m_letters : Nat) (a_m_seen : Nat) (a_m_pointBy : Nat) (a_m_isKept : Nat) (a_m_lanes : Nat) (a_m_lengths : Nat) (a_m_sheetCells : Nat) (sz : Nat) (m_toldOnce : Int32) (m_taped : Int32) (m_fault : Int32) (m_broken : Int32) (m_brokenAt : Int32) (m_spot : Int32) (m_here : Int32) (m_token : Int32) (m_value : Int32) (m_silent : Int32) (m_greatest : Int32) (m_moves : Int32) (m_holders : Int32) (m_seenMany : Int32) (m_torn : Int32) (m_state : Nat → Int32) (u1 : Int32) (u2 : Int32) (u3 : Int32) (out : Int32 × (Nat → Int32)) (h : p_X6_alters u1 u2 u3 m_state = some out) : zMi l yX6_alters wsX6_alters 2 46 G k tL tM sK sV [.ref a_m, .int u1, .int u2, .int u3] [(a_m, .inr (6, [.ref a_m_state, .ref a_m_readPage, .int m_toldOnce, .ref a_m_tape, .int m_taped, .int m_fault, .int m_broken, .int m_brokenAt, .int m_spot, .int m_here, .int m_token, .int m_value, .ref a_m_cuts, .ref a_m_letters, .int m_silent, .int m_greatest, .int m_moves, .int m_holders, .ref a_m_seen, .int m_seenMany, .ref a_m_pointBy, .ref a_m_isKept, .ref a_m_lanes, .ref a_m_lengths, .ref a_m_sheetCells, .int m_torn])), (a_m_state, .inl (k 0, 156, .inl m_state))] [(a_m, .inr (6, [.ref a_m_state, .ref a_m_readPage, .int m_toldOnce, .ref a_m_tape, .int m_taped, .int m_fault, .int m_broken, .int m_brokenAt, .int m_spot, .int m_here, .int m_token, .int m_value, .ref a_m_cuts, .ref a_m_letters, .int m_silent, .int m_greatest, .int m_moves, .int m_holders, .ref a_m_seen, .int m_seenMany, .ref a_m_pointBy, .ref a_m_isKept, .ref a_m_lanes, .ref a_m_lengths, .ref a_m_sheetCells, .int m_torn])), (a_m_state, .inl (k 0, 156, .inl out.2))] out.1 sz := by
  refine z_meti (cc := cX6_alters) (maxL := 5) (by decide) rfl (Nat.le_of_ble_eq_true rfl) ?_
  intro p e s m below meth c A Q H locs ls hx hb hml hts hown hA hK hE hret hP hD hS hl
  have hown : s.vm.findClass RX6 = some m.cls := hown
  have hl : lv_has ls 5 [(0, .ref a_m), (1, .int u1), (2, .int u2), (3, .int u3)] := hl
  unfold p_X6_alters at h
  refine lv_iload_n hx hb dX6_alters_0 rfl (lv_at hl 2 rfl) ?_
  obtain ⟨e1, hv, h⟩ := zb h
  have hJ2 : ∀ (e1_ : Int32), e1_ = e1 → zW p l e (zR 2 46) s m ([.ref a_m, .int u1, .int u2, .int u3] : List Value).toArray below meth c Q 5 A G [(a_m, .inr (6, [.ref a_m_state, .ref a_m_readPage, .int m_toldOnce, .ref a_m_tape, .int m_taped, .int m_fault, .int m_broken, .int m_brokenAt, .int m_spot, .int m_here, .int m_token, .int m_value, .ref a_m_cuts, .ref a_m_letters, .int m_silent, .int m_greatest, .int m_moves, .int m_holders, .ref a_m_seen, .int m_seenMany, .ref a_m_pointBy, .ref a_m_isKept, .ref a_m_lanes, .ref a_m_lengths, .ref a_m_sheetCells, .int m_torn])), (a_m_state, .inl (k 0, 156, .inl m_state))] [(0, .ref a_m), (1, .int u1), (2, .int u2), (3, .int u3)] 67 [.int e1_] := by
    intro e1_ hz
    subst hz
    intro H locs ls hP hD hS hl
    refine lv_istore (lv' := [(4, .int e1_), (0, .ref a_m), (1, .int u1), (2, .int u2), (3, .int u3)]) hx hb dX6_alters_67 hl (by decide) rfl (fun ls hl => ?_)
    refine lv_aload_n hx hb dX6_alters_69 rfl (lv_at hl 1 rfl) ?_
    refine lv_aload_n hx hb dX6_alters_70 rfl (lv_at hl 1 rfl) ?_
    refine lv_iload_n hx hb dX6_alters_71 rfl (lv_at hl 2 rfl) ?_
    obtain ⟨o13, hv, h⟩ := zb h
    refine z_goi (w2 := [(a_m, .inr (6, [.ref a_m_state, .ref a_m_readPage, .int m_toldOnce, .ref a_m_tape, .int m_taped, .int m_fault, .int m_broken, .int m_brokenAt, .int m_spot, .int m_here, .int m_token, .int m_value, .ref a_m_cuts, .ref a_m_letters, .int m_silent, .int m_greatest, .int m_moves, .int m_holders, .ref a_m_seen, .int m_seenMany, .ref a_m_pointBy, .ref a_m_isKept, .ref a_m_lanes, .ref a_m_lengths, .ref a_m_sheetCells, .int m_torn])), (a_m_state, .inl (k 0, 156, .inl m_state))]) [0, 1] (va_runV (As := [.int u1]) (rest := [.ref a_m]) ⟨hx, hb, hml, hown, hts⟩ (c_X6_isDraw l G k tL tM sK sV a_m a_m_state a_m_readPage a_m_tape a_m_cuts a_m_letters a_m_seen a_m_pointBy a_m_isKept a_m_lanes a_m_lengths a_m_sheetCells H.size m_toldOnce m_taped m_fault m_broken m_brokenAt m_spot m_here m_token m_value m_silent m_greatest m_moves m_holders m_seenMany m_torn m_state u1 o13 hv) (cwV 1 hts gX6_alters_X6_isDraw rfl rfl rfl (by decide +kernel) ⟨Nat.le_of_ble_eq_true rfl, Nat.le_of_ble_eq_true rfl⟩) (z_preV (wc := [(a_m, .inr (6, [.ref a_m_state, .ref a_m_readPage, .int m_toldOnce, .ref a_m_tape, .int m_taped, .int m_fault, .int m_broken, .int m_brokenAt, .int m_spot, .int m_here, .int m_token, .int m_value, .ref a_m_cuts, .ref a_m_letters, .int m_silent, .int m_greatest, .int m_moves, .int m_holders, .ref a_m_seen, .int m_seenMany, .ref a_m_pointBy, .ref a_m_isKept, .ref a_m_lanes, .ref a_m_lengths, .ref a_m_sheetCells, .int m_torn])), (a_m_state, .inl (k 0, 156, .inl m_state))]) [0, 1] 0 6 hK hE hA hP hD hS (by decide) rfl rfl rfl) rfl rfl hl.1 rfl (lv_room (Nat.le_of_ble_eq_true rfl)) dX6_alters_72 ⟨Nat.le_refl _, Nat.le_refl _⟩) hA hP hD hS rfl rfl rfl rfl (fun H locs hP hD hS => ?_)
    refine lv_if_eq (tgt := 87) hx hb dX6_alters_75 (by decide) (fun c20 => ?_) (fun c20 => ?_)
    · have h := zit c20 h
      refine lv_iconst (v := 0) hx hb dX6_alters_87 (by decide) ?_
      refine lv_iconst (v := 5) hx hb dX6_alters_88 (by decide) ?_
      refine lv_iload_n hx hb dX6_alters_89 rfl (lv_at hl 3 rfl) ?_
      refine lv_imul hx hb dX6_alters_90 ?_
      refine lv_iload_n hx hb dX6_alters_91 rfl (lv_at hl 2 rfl) ?_
      refine lv_iadd hx hb dX6_alters_92 ?_
      refine lv_iload_n hx hb dX6_alters_93 rfl (lv_at hl 4 rfl) ?_
      refine lv_iconst (v := 0) hx hb dX6_alters_94 (by decide) ?_
      obtain ⟨o14, hv, h⟩ := zb h
      refine z_goi (w2 := [(a_m, .inr (6, [.ref a_m_state, .ref a_m_readPage, .int m_toldOnce, .ref a_m_tape, .int m_taped, .int m_fault, .int m_broken, .int m_brokenAt, .int m_spot, .int m_here, .int m_token, .int m_value, .ref a_m_cuts, .ref a_m_letters, .int m_silent, .int m_greatest, .int m_moves, .int m_holders, .ref a_m_seen, .int m_seenMany, .ref a_m_pointBy, .ref a_m_isKept, .ref a_m_lanes, .ref a_m_lengths, .ref a_m_sheetCells, .int m_torn])), (a_m_state, .inl (k 0, 156, .inl o14.2))]) [0, 1] (va_runV (As := [.int (0 : Int32), .int (((5 : Int32) * u2) + u1), .int u3, .int (0 : Int32)]) (rest := []) ⟨hx, hb, hml, hown, hts⟩ (c_X6_puts l G k tL tM sK sV a_m a_m_state a_m_readPage a_m_tape a_m_cuts a_m_letters a_m_seen a_m_pointBy a_m_isKept a_m_lanes a_m_lengths a_m_sheetCells H.size m_toldOnce m_taped m_fault m_broken m_brokenAt m_spot m_here m_token m_value m_silent m_greatest m_moves m_holders m_seenMany m_torn m_state (0 : Int32) (((5 : Int32) * u2) + u1) u3 (0 : Int32) o14 hv) (cwV 4 hts gX6_alters_X6_puts rfl rfl rfl (by decide +kernel) ⟨Nat.le_of_ble_eq_true rfl, Nat.le_of_ble_eq_true rfl⟩) (z_preV (wc := [(a_m, .inr (6, [.ref a_m_state, .ref a_m_readPage, .int m_toldOnce, .ref a_m_tape, .int m_taped, .int m_fault, .int m_broken, .int m_brokenAt, .int m_spot, .int m_here, .int m_token, .int m_value, .ref a_m_cuts, .ref a_m_letters, .int m_silent, .int m_greatest, .int m_moves, .int m_holders, .ref a_m_seen, .int m_seenMany, .ref a_m_pointBy, .ref a_m_isKept, .ref a_m_lanes, .ref a_m_lengths, .ref a_m_sheetCells, .int m_torn])), (a_m_state, .inl (k 0, 156, .inl m_state))]) [0, 1] 0 6 hK hE hA hP hD hS (by decide) rfl rfl rfl) rfl rfl hl.1 rfl (lv_room (Nat.le_of_ble_eq_true rfl)) dX6_alters_95 ⟨Nat.le_refl _, Nat.le_refl _⟩) hA hP hD hS rfl rfl rfl rfl (fun H locs hP hD hS => ?_)
      have hr := (zs h)
      subst hr
      exact hret H locs ls 98 hP hS dX6_alters_98
    · have h := zif c20 h
      refine lv_iload hx hb dX6_alters_78 (lv_at hl 0 rfl) ?_
      have hJ15 : ∀ (y16 : Int32), y16 = (if e1_ = 0 then (0 : Int32) else (1 : Int32)) → zW p l e (zR 2 46) s m ([.ref a_m, .int u1, .int u2, .int u3] : List Value).toArray below meth c Q 5 A G [(a_m, .inr (6, [.ref a_m_state, .ref a_m_readPage, .int m_toldOnce, .ref a_m_tape, .int m_taped, .int m_fault, .int m_broken, .int m_brokenAt, .int m_spot, .int m_here, .int m_token, .int m_value, .ref a_m_cuts, .ref a_m_letters, .int m_silent, .int m_greatest, .int m_moves, .int m_holders, .ref a_m_seen, .int m_seenMany, .ref a_m_pointBy, .ref a_m_isKept, .ref a_m_lanes, .ref a_m_lengths, .ref a_m_sheetCells, .int m_torn])), (a_m_state, .inl (k 0, 156, .inl m_state))] [(1, .int u1), (2, .int u2), (3, .int u3)] 88 [.int y16, .ref a_m] := by
        intro y16 q17
        subst q17
        intro H locs ls hP hD hS hl
        refine lv_iconst (v := 5) hx hb dX6_alters_88 (by decide) ?_
        refine lv_iload_n hx hb dX6_alters_89 rfl (lv_at hl 1 rfl) ?_
        refine lv_imul hx hb dX6_alters_90 ?_
        refine lv_iload_n hx hb dX6_alters_91 rfl (lv_at hl 0 rfl) ?_
        refine lv_iadd hx hb dX6_alters_92 ?_
        refine lv_iload_n hx hb dX6_alters_93 rfl (lv_at hl 2 rfl) ?_
        refine lv_iconst (v := 0) hx hb dX6_alters_94 (by decide) ?_
        obtain ⟨o19, hv, h⟩ := zb h
        refine z_goi (w2 := [(a_m, .inr (6, [.ref a_m_state, .ref a_m_readPage, .int m_toldOnce, .ref a_m_tape, .int m_taped, .int m_fault, .int m_broken, .int m_brokenAt, .int m_spot, .int m_here, .int m_token, .int m_value, .ref a_m_cuts, .ref a_m_letters, .int m_silent, .int m_greatest, .int m_moves, .int m_holders, .ref a_m_seen, .int m_seenMany, .ref a_m_pointBy, .ref a_m_isKept, .ref a_m_lanes, .ref a_m_lengths, .ref a_m_sheetCells, .int m_torn])), (a_m_state, .inl (k 0, 156, .inl o19.2))]) [0, 1] (va_runV (As := [.int (if e1_ = 0 then (0 : Int32) else (1 : Int32)), .int (((5 : Int32) * u2) + u1), .int u3, .int (0 : Int32)]) (rest := []) ⟨hx, hb, hml, hown, hts⟩ (c_X6_puts l G k tL tM sK sV a_m a_m_state a_m_readPage a_m_tape a_m_cuts a_m_letters a_m_seen a_m_pointBy a_m_isKept a_m_lanes a_m_lengths a_m_sheetCells H.size m_toldOnce m_taped m_fault m_broken m_brokenAt m_spot m_here m_token m_value m_silent m_greatest m_moves m_holders m_seenMany m_torn m_state (if e1_ = 0 then (0 : Int32) else (1 : Int32)) (((5 : Int32) * u2) + u1) u3 (0 : Int32) o19 hv) (cwV 4 hts gX6_alters_X6_puts rfl rfl rfl (by decide +kernel) ⟨Nat.le_of_ble_eq_true rfl, Nat.le_of_ble_eq_true rfl⟩) (z_preV (wc := [(a_m, .inr (6, [.ref a_m_state, .ref a_m_readPage, .int m_toldOnce, .ref a_m_tape, .int m_taped, .int m_fault, .int m_broken, .int m_brokenAt, .int m_spot, .int m_here, .int m_token, .int m_value, .ref a_m_cuts, .ref a_m_letters, .int m_silent, .int m_greatest, .int m_moves, .int m_holders, .ref a_m_seen, .int m_seenMany, .ref a_m_pointBy, .ref a_m_isKept, .ref a_m_lanes, .ref a_m_lengths, .ref a_m_sheetCells, .int m_torn])), (a_m_state, .inl (k 0, 156, .inl m_state))]) [0, 1] 0 6 hK hE hA hP hD hS (by decide) rfl rfl rfl) rfl rfl hl.1 rfl (lv_room (Nat.le_of_ble_eq_true rfl)) dX6_alters_95 ⟨Nat.le_refl _, Nat.le_refl _⟩) hA hP hD hS rfl rfl rfl rfl (fun H locs hP hD hS => ?_)
        have hr := (zs h)
        subst hr
        exact hret H locs ls 98 hP hS dX6_alters_98
      refine lv_if_eq (tgt := 87) hx hb dX6_alters_80 (by decide) (fun c18 => ?_) (fun c18 => ?_)
      · refine lv_iconst (v := 0) hx hb dX6_alters_87 (by decide) ?_
        exact hJ15 _ (if_pos c18).symm H locs ls hP hD hS (lv_sub hl [2, 3, 4] rfl)
      · refine lv_iconst (v := 1) hx hb dX6_alters_83 (by decide) ?_
        refine lv_goto (tgt := 88) hx hb dX6_alters_84 (by decide) ?_
        exact hJ15 _ (if_neg c18).symm H locs ls hP hD hS (lv_sub hl [2, 3, 4] rfl)
  clear h
  have h := hv
  refine lv_if_ne (tgt := 16) hx hb dX6_alters_1 (by decide) (fun c12 => ?_) (fun c12 => ?_)
  · have h := zif c12 h
    refine lv_iload_n hx hb dX6_alters_16 rfl (lv_at hl 2 rfl) ?_
    refine lv_iconst (v := 1) hx hb dX6_alters_17 (by decide) ?_
    refine lv_icmp_ne (tgt := 33) hx hb dX6_alters_18 (by decide) (fun c10 => ?_) (fun c10 => ?_)
    · have h := zif c10 h
      refine lv_iload_n hx hb dX6_alters_33 rfl (lv_at hl 2 rfl) ?_
      refine lv_iconst (v := 2) hx hb dX6_alters_34 (by decide) ?_
      refine lv_icmp_ne (tgt := 45) hx hb dX6_alters_35 (by decide) (fun c8 => ?_) (fun c8 => ?_)
      · have h := zif c8 h
        refine lv_iload_n hx hb dX6_alters_45 rfl (lv_at hl 2 rfl) ?_
        refine lv_iconst (v := 3) hx hb dX6_alters_46 (by decide) ?_
        refine lv_icmp_ne (tgt := 66) hx hb dX6_alters_47 (by decide) (fun c6 => ?_) (fun c6 => ?_)
        · have h := zif c6 h
          refine lv_iconst (v := 0) hx hb dX6_alters_66 (by decide) ?_
          exact hJ2 _ (zs h) H locs ls hP hD hS (lv_sub hl [0, 1, 2, 3] rfl)
        · have h := zit c6 h
          refine lv_iload_n hx hb dX6_alters_50 rfl (lv_at hl 3 rfl) ?_
          refine lv_i2l (v := u3.toInt64) hx hb dX6_alters_51 rfl ?_
          refine lv_lconst (v := 0) hx hb dX6_alters_52 (by decide) ?_
          refine lv_ldc2 hx hb hown (hts (.constantLong RX6 163 (60)) (List.mem_of_getElem? (i := 3) rfl)) dX6_alters_53 ?_
          obtain ⟨o4, hv, h⟩ := zb h
          refine z_goi (w2 := [(a_m, .inr (6, [.ref a_m_state, .ref a_m_readPage, .int m_toldOnce, .ref a_m_tape, .int m_taped, .int m_fault, .int m_broken, .int m_brokenAt, .int m_spot, .int m_here, .int m_token, .int m_value, .ref a_m_cuts, .ref a_m_letters, .int m_silent, .int m_greatest, .int m_moves, .int m_holders, .ref a_m_seen, .int m_seenMany, .ref a_m_pointBy, .ref a_m_isKept, .ref a_m_lanes, .ref a_m_lengths, .ref a_m_sheetCells, .int m_torn])), (a_m_state, .inl (k 0, 156, .inl m_state))]) [] (va_runS (As := [.long u3.toInt64, .long (0 : Int64), .long (60 : Int64)]) (rest := []) ⟨hx, hb, hml, hown, hts⟩ (c_X6_in l G k tL tM sK sV H.size u3.toInt64 (0 : Int64) (60 : Int64) o4 hv) (va_cwS 3 hts gX6_alters_X6_in rfl rfl rfl (by decide +kernel) ⟨Nat.le_of_ble_eq_true rfl, Nat.le_of_ble_eq_true rfl⟩) (z_preS (wc := []) [] hK hE hA hP hD hS (by decide) rfl) rfl rfl hl.1 rfl (lv_room (Nat.le_of_ble_eq_true rfl)) dX6_alters_56 ⟨Nat.le_refl _, Nat.le_refl _⟩) hA hP hD hS rfl rfl rfl rfl (fun H locs hP hD hS => ?_)
          refine lv_if_eq (tgt := 66) hx hb dX6_alters_59 (by decide) (fun c5 => ?_) (fun c5 => ?_)
          · have h := zit c5 h
            refine lv_iconst (v := 0) hx hb dX6_alters_66 (by decide) ?_
            exact hJ2 _ (zs h) H locs ls hP hD hS (lv_sub hl [0, 1, 2, 3] rfl)
          · have h := zif c5 h
            refine lv_iconst (v := 1) hx hb dX6_alters_62 (by decide) ?_
            refine lv_goto (tgt := 67) hx hb dX6_alters_63 (by decide) ?_
            exact hJ2 _ (zs h) H locs ls hP hD hS (lv_sub hl [0, 1, 2, 3] rfl)
      · have h := zit c8 h
        refine lv_iload_n hx hb dX6_alters_38 rfl (lv_at hl 3 rfl) ?_
        obtain ⟨o7, hv, h⟩ := zb h
        refine z_goi (w2 := [(a_m, .inr (6, [.ref a_m_state, .ref a_m_readPage, .int m_toldOnce, .ref a_m_tape, .int m_taped, .int m_fault, .int m_broken, .int m_brokenAt, .int m_spot, .int m_here, .int m_token, .int m_value, .ref a_m_cuts, .ref a_m_letters, .int m_silent, .int m_greatest, .int m_moves, .int m_holders, .ref a_m_seen, .int m_seenMany, .ref a_m_pointBy, .ref a_m_isKept, .ref a_m_lanes, .ref a_m_lengths, .ref a_m_sheetCells, .int m_torn])), (a_m_state, .inl (k 0, 156, .inl m_state))]) [] (va_runS (As := [.int u3]) (rest := []) ⟨hx, hb, hml, hown, hts⟩ (c_X6_isCell l G k tL tM sK sV H.size u3 o7 hv) (va_cwS 1 hts gX6_alters_X6_isCell rfl rfl rfl (by decide +kernel) ⟨Nat.le_of_ble_eq_true rfl, Nat.le_of_ble_eq_true rfl⟩) (z_preS (wc := []) [] hK hE hA hP hD hS (by decide) rfl) rfl rfl hl.1 rfl (lv_room (Nat.le_of_ble_eq_true rfl)) dX6_alters_39 ⟨Nat.le_refl _, Nat.le_refl _⟩) hA hP hD hS rfl rfl rfl rfl (fun H locs hP hD hS => ?_)
        refine lv_goto (tgt := 67) hx hb dX6_alters_42 (by decide) ?_
        exact hJ2 _ (zs h) H locs ls hP hD hS (lv_sub hl [0, 1, 2, 3] rfl)
    · have h := zit c10 h
      refine lv_iload_n hx hb dX6_alters_21 rfl (lv_at hl 3 rfl) ?_
      refine lv_i2l (v := u3.toInt64) hx hb dX6_alters_22 rfl ?_
      refine lv_lconst (v := 1) hx hb dX6_alters_23 (by decide) ?_
      refine lv_ldc2 hx hb hown (hts (.constantLong RX6 158 (20)) (List.mem_of_getElem? (i := 2) rfl)) dX6_alters_24 ?_
      obtain ⟨o9, hv, h⟩ := zb h
      refine z_goi (w2 := [(a_m, .inr (6, [.ref a_m_state, .ref a_m_readPage, .int m_toldOnce, .ref a_m_tape, .int m_taped, .int m_fault, .int m_broken, .int m_brokenAt, .int m_spot, .int m_here, .int m_token, .int m_value, .ref a_m_cuts, .ref a_m_letters, .int m_silent, .int m_greatest, .int m_moves, .int m_holders, .ref a_m_seen, .int m_seenMany, .ref a_m_pointBy, .ref a_m_isKept, .ref a_m_lanes, .ref a_m_lengths, .ref a_m_sheetCells, .int m_torn])), (a_m_state, .inl (k 0, 156, .inl m_state))]) [] (va_runS (As := [.long u3.toInt64, .long (1 : Int64), .long (20 : Int64)]) (rest := []) ⟨hx, hb, hml, hown, hts⟩ (c_X6_in l G k tL tM sK sV H.size u3.toInt64 (1 : Int64) (20 : Int64) o9 hv) (va_cwS 3 hts gX6_alters_X6_in rfl rfl rfl (by decide +kernel) ⟨Nat.le_of_ble_eq_true rfl, Nat.le_of_ble_eq_true rfl⟩) (z_preS (wc := []) [] hK hE hA hP hD hS (by decide) rfl) rfl rfl hl.1 rfl (lv_room (Nat.le_of_ble_eq_true rfl)) dX6_alters_27 ⟨Nat.le_refl _, Nat.le_refl _⟩) hA hP hD hS rfl rfl rfl rfl (fun H locs hP hD hS => ?_)
      refine lv_goto (tgt := 67) hx hb dX6_alters_30 (by decide) ?_
      exact hJ2 _ (zs h) H locs ls hP hD hS (lv_sub hl [0, 1, 2, 3] rfl)
  · have h := zit c12 h
    refine lv_iload_n hx hb dX6_alters_4 rfl (lv_at hl 3 rfl) ?_
    refine lv_i2l (v := u3.toInt64) hx hb dX6_alters_5 rfl ?_
    refine lv_lconst (v := 0) hx hb dX6_alters_6 (by decide) ?_
    refine lv_ldc2 hx hb hown (hts (.constantLong RX6 156 (3)) (List.mem_of_getElem? (i := 1) rfl)) dX6_alters_7 ?_
    obtain ⟨o11, hv, h⟩ := zb h
    refine z_goi (w2 := [(a_m, .inr (6, [.ref a_m_state, .ref a_m_readPage, .int m_toldOnce, .ref a_m_tape, .int m_taped, .int m_fault, .int m_broken, .int m_brokenAt, .int m_spot, .int m_here, .int m_token, .int m_value, .ref a_m_cuts, .ref a_m_letters, .int m_silent, .int m_greatest, .int m_moves, .int m_holders, .ref a_m_seen, .int m_seenMany, .ref a_m_pointBy, .ref a_m_isKept, .ref a_m_lanes, .ref a_m_lengths, .ref a_m_sheetCells, .int m_torn])), (a_m_state, .inl (k 0, 156, .inl m_state))]) [] (va_runS (As := [.long u3.toInt64, .long (0 : Int64), .long (3 : Int64)]) (rest := []) ⟨hx, hb, hml, hown, hts⟩ (c_X6_in l G k tL tM sK sV H.size u3.toInt64 (0 : Int64) (3 : Int64) o11 hv) (va_cwS 3 hts gX6_alters_X6_in rfl rfl rfl (by decide +kernel) ⟨Nat.le_of_ble_eq_true rfl, Nat.le_of_ble_eq_true rfl⟩) (z_preS (wc := []) [] hK hE hA hP hD hS (by decide) rfl) rfl rfl hl.1 rfl (lv_room (Nat.le_of_ble_eq_true rfl)) dX6_alters_10 ⟨Nat.le_refl _, Nat.le_refl _⟩) hA hP hD hS rfl rfl rfl rfl (fun H locs hP hD hS => ?_)
    refine lv_goto (tgt := 67) hx hb dX6_alters_13 (by decide) ?_
    exact hJ2 _ (zs h) H locs ls hP hD hS (lv_sub hl [0, 1, 2, 3] rfl)
set_option maxHeartbeats 4000000 in
set_option maxRecDepth 100000 in
theorem c_X6_alter (l : Launch) (G : va_G) (k : Nat → ClassId) (tL tM : Nat) (sK sV : Nat → Nat) (a_m : Nat) (a_m_state : Nat) (a_m_readPage : Nat) (a_m_tape : Nat) (a_m_cuts : Nat) (a_m_letters : Nat) (a_m_seen : Nat) (a_m_pointBy : Nat) (a_m_isKept : Nat) (a_m_lanes : Nat) (a_m_lengths : Nat) (a_m_sheetCells : Nat) (sz : Nat) (m_toldOnce : Int32) (m_taped : Int32) (m_fault : Int32) (m_broken : Int32) (m_brokenAt : Int32) (m_spot : Int32) (m_here : Int32) (m_token : Int32) (m_value : Int32) (m_silent : Int32) (m_greatest : Int32) (m_moves : Int32) (m_holders : Int32) (m_seenMany : Int32) (m_torn : Int32) (m_state : Nat → Int32) (u1 : Int32) (u2 : Int32) (u3 : Int32) (out : Int32 × (Nat → Int32)) (h : p_X6_alter u1 u2 u3 m_state = some out) : zMi l yX6_alter wsX6_alter 3 70 G k tL tM sK sV [.ref a_m, .int u1, .int u2, .int u3] [(a_m, .inr (6, [.ref a_m_state, .ref a_m_readPage, .int m_toldOnce, .ref a_m_tape, .int m_taped, .int m_fault, .int m_broken, .int m_brokenAt, .int m_spot, .int m_here, .int m_token, .int m_value, .ref a_m_cuts, .ref a_m_letters, .int m_silent, .int m_greatest, .int m_moves, .int m_holders, .ref a_m_seen, .int m_seenMany, .ref a_m_pointBy, .ref a_m_isKept, .ref a_m_lanes, .ref a_m_lengths, .ref a_m_sheetCells, .int m_torn])), (a_m_state, .inl (k 0, 156, .inl m_state))] [(a_m, .inr (6, [.ref a_m_state, .ref a_m_readPage, .int m_toldOnce, .ref a_m_tape, .int m_taped, .int m_fault, .int m_broken, .int m_brokenAt, .int m_spot, .int m_here, .int m_token, .int m_value, .ref a_m_cuts, .ref a_m_letters, .int m_silent, .int m_greatest, .int m_moves, .int m_holders, .ref a_m_seen, .int m_seenMany, .ref a_m_pointBy, .ref a_m_isKept, .ref a_m_lanes, .ref a_m_lengths, .ref a_m_sheetCells, .int m_torn])), (a_m_state, .inl (k 0, 156, .inl out.2))] out.1 sz := by
  refine z_meti (cc := cX6_alter) (maxL := 4) (by decide) rfl (Nat.le_of_ble_eq_true rfl) ?_
  intro p e s m below meth c A Q H locs ls hx hb hml hts hown hA hK hE hret hP hD hS hl
  have hown : s.vm.findClass RX6 = some m.cls := hown
  have hl : lv_has ls 4 [(0, .ref a_m), (1, .int u1), (2, .int u2), (3, .int u3)] := hl
  unfold p_X6_alter at h
  refine lv_aload_n hx hb dX6_alter_0 rfl (lv_at hl 0 rfl) ?_
  refine lv_iload_n hx hb dX6_alter_1 rfl (lv_at hl 1 rfl) ?_
  refine lv_iload_n hx hb dX6_alter_2 rfl (lv_at hl 2 rfl) ?_
  refine lv_iload_n hx hb dX6_alter_3 rfl (lv_at hl 3 rfl) ?_
  obtain ⟨o1, hv, h⟩ := zb h
  refine z_goi (w2 := [(a_m, .inr (6, [.ref a_m_state, .ref a_m_readPage, .int m_toldOnce, .ref a_m_tape, .int m_taped, .int m_fault, .int m_broken, .int m_brokenAt, .int m_spot, .int m_here, .int m_token, .int m_value, .ref a_m_cuts, .ref a_m_letters, .int m_silent, .int m_greatest, .int m_moves, .int m_holders, .ref a_m_seen, .int m_seenMany, .ref a_m_pointBy, .ref a_m_isKept, .ref a_m_lanes, .ref a_m_lengths, .ref a_m_sheetCells, .int m_torn])), (a_m_state, .inl (k 0, 156, .inl o1.2))]) [0, 1] (va_runV (As := [.int u1, .int u2, .int u3]) (rest := []) ⟨hx, hb, hml, hown, hts⟩ (c_X6_alters l G k tL tM sK sV a_m a_m_state a_m_readPage a_m_tape a_m_cuts a_m_letters a_m_seen a_m_pointBy a_m_isKept a_m_lanes a_m_lengths a_m_sheetCells H.size m_toldOnce m_taped m_fault m_broken m_brokenAt m_spot m_here m_token m_value m_silent m_greatest m_moves m_holders m_seenMany m_torn m_state u1 u2 u3 o1 hv) (cwV 3 hts gX6_alter_X6_alters rfl rfl rfl (by decide +kernel) ⟨Nat.le_of_ble_eq_true rfl, Nat.le_of_ble_eq_true rfl⟩) (z_preV (wc := [(a_m, .inr (6, [.ref a_m_state, .ref a_m_readPage, .int m_toldOnce, .ref a_m_tape, .int m_taped, .int m_fault, .int m_broken, .int m_brokenAt, .int m_spot, .int m_here, .int m_token, .int m_value, .ref a_m_cuts, .ref a_m_letters, .int m_silent, .int m_greatest, .int m_moves, .int m_holders, .ref a_m_seen, .int m_seenMany, .ref a_m_pointBy, .ref a_m_isKept, .ref a_m_lanes, .ref a_m_lengths, .ref a_m_sheetCells, .int m_torn])), (a_m_state, .inl (k 0, 156, .inl m_state))]) [0, 1] 0 6 hK hE hA hP hD hS (by decide) rfl rfl rfl) rfl rfl hl.1 rfl (lv_room (Nat.le_of_ble_eq_true rfl)) dX6_alter_4 ⟨Nat.le_refl _, Nat.le_refl _⟩) hA hP hD hS rfl rfl rfl rfl (fun H locs hP hD hS => ?_)
  have hr := (zs h)
  subst hr
  exact hret H locs ls 7 hP hS dX6_alter_7
set_option maxHeartbeats 4000000 in
set_option maxRecDepth 100000 in
theorem c_X6_stiff (l : Launch) (G : va_G) (k : Nat → ClassId) (tL tM : Nat) (sK sV : Nat → Nat) (a_m : Nat) (a_m_state : Nat) (a_m_readPage : Nat) (a_m_tape : Nat) (a_m_cuts : Nat) (a_m_letters : Nat) (a_m_seen : Nat) (a_m_pointBy : Nat) (a_m_isKept : Nat) (a_m_lanes : Nat) (a_m_lengths : Nat) (a_m_sheetCells : Nat) (sz : Nat) (m_toldOnce : Int32) (m_taped : Int32) (m_fault : Int32) (m_broken : Int32) (m_brokenAt : Int32) (m_spot : Int32) (m_here : Int32) (m_token : Int32) (m_value : Int32) (m_silent : Int32) (m_greatest : Int32) (m_moves : Int32) (m_holders : Int32) (m_seenMany : Int32) (m_torn : Int32) (m_state : Nat → Int32) (u1 : Int32) (out : Int32 × (Nat → Int32)) (h : p_X6_stiff u1 m_state = some out) : zMi l yX6_stiff wsX6_stiff 1 25 G k tL tM sK sV [.ref a_m, .int u1] [(a_m, .inr (6, [.ref a_m_state, .ref a_m_readPage, .int m_toldOnce, .ref a_m_tape, .int m_taped, .int m_fault, .int m_broken, .int m_brokenAt, .int m_spot, .int m_here, .int m_token, .int m_value, .ref a_m_cuts, .ref a_m_letters, .int m_silent, .int m_greatest, .int m_moves, .int m_holders, .ref a_m_seen, .int m_seenMany, .ref a_m_pointBy, .ref a_m_isKept, .ref a_m_lanes, .ref a_m_lengths, .ref a_m_sheetCells, .int m_torn])), (a_m_state, .inl (k 0, 156, .inl m_state))] [(a_m, .inr (6, [.ref a_m_state, .ref a_m_readPage, .int m_toldOnce, .ref a_m_tape, .int m_taped, .int m_fault, .int m_broken, .int m_brokenAt, .int m_spot, .int m_here, .int m_token, .int m_value, .ref a_m_cuts, .ref a_m_letters, .int m_silent, .int m_greatest, .int m_moves, .int m_holders, .ref a_m_seen, .int m_seenMany, .ref a_m_pointBy, .ref a_m_isKept, .ref a_m_lanes, .ref a_m_lengths, .ref a_m_sheetCells, .int m_torn])), (a_m_state, .inl (k 0, 156, .inl out.2))] out.1 sz := by
  refine z_meti (cc := cX6_stiff) (maxL := 2) (by decide) rfl (Nat.le_of_ble_eq_true rfl) ?_
  intro p e s m below meth c A Q H locs ls hx hb hml hts hown hA hK hE hret hP hD hS hl
  have hown : s.vm.findClass RX6 = some m.cls := hown
  have hl : lv_has ls 2 [(0, .ref a_m), (1, .int u1)] := hl
  unfold p_X6_stiff at h
  refine lv_aload_n hx hb dX6_stiff_0 rfl (lv_at hl 0 rfl) ?_
  refine lv_iload_n hx hb dX6_stiff_1 rfl (lv_at hl 1 rfl) ?_
  refine lv_i2l (v := u1.toInt64) hx hb dX6_stiff_2 rfl ?_
  refine lv_lconst (v := 0) hx hb dX6_stiff_3 (by decide) ?_
  refine lv_ldc2 hx hb hown (hts (.constantLong RX6 158 (20)) (List.mem_of_getElem? (i := 1) rfl)) dX6_stiff_4 ?_
  obtain ⟨o1, hv, h⟩ := zb h
  refine z_goi (w2 := [(a_m, .inr (6, [.ref a_m_state, .ref a_m_readPage, .int m_toldOnce, .ref a_m_tape, .int m_taped, .int m_fault, .int m_broken, .int m_brokenAt, .int m_spot, .int m_here, .int m_token, .int m_value, .ref a_m_cuts, .ref a_m_letters, .int m_silent, .int m_greatest, .int m_moves, .int m_holders, .ref a_m_seen, .int m_seenMany, .ref a_m_pointBy, .ref a_m_isKept, .ref a_m_lanes, .ref a_m_lengths, .ref a_m_sheetCells, .int m_torn])), (a_m_state, .inl (k 0, 156, .inl m_state))]) [] (va_runS (As := [.long u1.toInt64, .long (0 : Int64), .long (20 : Int64)]) (rest := [.ref a_m]) ⟨hx, hb, hml, hown, hts⟩ (c_X6_in l G k tL tM sK sV H.size u1.toInt64 (0 : Int64) (20 : Int64) o1 hv) (va_cwS 3 hts gX6_stiff_X6_in rfl rfl rfl (by decide +kernel) ⟨Nat.le_of_ble_eq_true rfl, Nat.le_of_ble_eq_true rfl⟩) (z_preS (wc := []) [] hK hE hA hP hD hS (by decide) rfl) rfl rfl hl.1 rfl (lv_room (Nat.le_of_ble_eq_true rfl)) dX6_stiff_7 ⟨Nat.le_refl _, Nat.le_refl _⟩) hA hP hD hS rfl rfl rfl rfl (fun H locs hP hD hS => ?_)
  refine lv_bipush (v := 23) hx hb dX6_stiff_10 (by decide) ?_
  refine lv_iload_n hx hb dX6_stiff_12 rfl (lv_at hl 1 rfl) ?_
  refine lv_iconst (v := 2) hx hb dX6_stiff_13 (by decide) ?_
  obtain ⟨o2, hv, h⟩ := zb h
  refine z_goi (w2 := [(a_m, .inr (6, [.ref a_m_state, .ref a_m_readPage, .int m_toldOnce, .ref a_m_tape, .int m_taped, .int m_fault, .int m_broken, .int m_brokenAt, .int m_spot, .int m_here, .int m_token, .int m_value, .ref a_m_cuts, .ref a_m_letters, .int m_silent, .int m_greatest, .int m_moves, .int m_holders, .ref a_m_seen, .int m_seenMany, .ref a_m_pointBy, .ref a_m_isKept, .ref a_m_lanes, .ref a_m_lengths, .ref a_m_sheetCells, .int m_torn])), (a_m_state, .inl (k 0, 156, .inl o2.2))]) [0, 1] (va_runV (As := [.int o1, .int (23 : Int32), .int u1, .int (2 : Int32)]) (rest := []) ⟨hx, hb, hml, hown, hts⟩ (c_X6_puts l G k tL tM sK sV a_m a_m_state a_m_readPage a_m_tape a_m_cuts a_m_letters a_m_seen a_m_pointBy a_m_isKept a_m_lanes a_m_lengths a_m_sheetCells H.size m_toldOnce m_taped m_fault m_broken m_brokenAt m_spot m_here m_token m_value m_silent m_greatest m_moves m_holders m_seenMany m_torn m_state o1 (23 : Int32) u1 (2 : Int32) o2 hv) (cwV 4 hts gX6_stiff_X6_puts rfl rfl rfl (by decide +kernel) ⟨Nat.le_of_ble_eq_true rfl, Nat.le_of_ble_eq_true rfl⟩) (z_preV (wc := [(a_m, .inr (6, [.ref a_m_state, .ref a_m_readPage, .int m_toldOnce, .ref a_m_tape, .int m_taped, .int m_fault, .int m_broken, .int m_brokenAt, .int m_spot, .int m_here, .int m_token, .int m_value, .ref a_m_cuts, .ref a_m_letters, .int m_silent, .int m_greatest, .int m_moves, .int m_holders, .ref a_m_seen, .int m_seenMany, .ref a_m_pointBy, .ref a_m_isKept, .ref a_m_lanes, .ref a_m_lengths, .ref a_m_sheetCells, .int m_torn])), (a_m_state, .inl (k 0, 156, .inl m_state))]) [0, 1] 0 6 hK hE hA hP hD hS (by decide) rfl rfl rfl) rfl rfl hl.1 rfl (lv_room (Nat.le_of_ble_eq_true rfl)) dX6_stiff_14 ⟨Nat.le_refl _, Nat.le_refl _⟩) hA hP hD hS rfl rfl rfl rfl (fun H locs hP hD hS => ?_)
  have hr := (zs h)
  subst hr
  exact hret H locs ls 17 hP hS dX6_stiff_17
set_option maxHeartbeats 4000000 in
set_option maxRecDepth 100000 in
theorem c_X6_bears (l : Launch) (G : va_G) (k : Nat → ClassId) (tL tM : Nat) (sK sV : Nat → Nat) (a_m : Nat) (a_m_state : Nat) (a_m_readPage : Nat) (a_m_tape : Nat) (a_m_cuts : Nat) (a_m_letters : Nat) (a_m_seen : Nat) (a_m_pointBy : Nat) (a_m_isKept : Nat) (a_m_lanes : Nat) (a_m_lengths : Nat) (a_m_sheetCells : Nat) (sz : Nat) (m_toldOnce : Int32) (m_taped : Int32) (m_fault : Int32) (m_broken : Int32) (m_brokenAt : Int32) (m_spot : Int32) (m_here : Int32) (m_token : Int32) (m_value : Int32) (m_silent : Int32) (m_greatest : Int32) (m_moves : Int32) (m_holders : Int32) (m_seenMany : Int32) (m_torn : Int32) (m_state : Nat → Int32) (u1 : Int32) (out : Int32 × (Nat → Int32)) (h : p_X6_bears u1 m_state = some out) : zMi l yX6_bears wsX6_bears 1 25 G k tL tM sK sV [.ref a_m, .int u1] [(a_m, .inr (6, [.ref a_m_state, .ref a_m_readPage, .int m_toldOnce, .ref a_m_tape, .int m_taped, .int m_fault, .int m_broken, .int m_brokenAt, .int m_spot, .int m_here, .int m_token, .int m_value, .ref a_m_cuts, .ref a_m_letters, .int m_silent, .int m_greatest, .int m_moves, .int m_holders, .ref a_m_seen, .int m_seenMany, .ref a_m_pointBy, .ref a_m_isKept, .ref a_m_lanes, .ref a_m_lengths, .ref a_m_sheetCells, .int m_torn])), (a_m_state, .inl (k 0, 156, .inl m_state))] [(a_m, .inr (6, [.ref a_m_state, .ref a_m_readPage, .int m_toldOnce, .ref a_m_tape, .int m_taped, .int m_fault, .int m_broken, .int m_brokenAt, .int m_spot, .int m_here, .int m_token, .int m_value, .ref a_m_cuts, .ref a_m_letters, .int m_silent, .int m_greatest, .int m_moves, .int m_holders, .ref a_m_seen, .int m_seenMany, .ref a_m_pointBy, .ref a_m_isKept, .ref a_m_lanes, .ref a_m_lengths, .ref a_m_sheetCells, .int m_torn])), (a_m_state, .inl (k 0, 156, .inl out.2))] out.1 sz := by
  refine z_meti (cc := cX6_bears) (maxL := 2) (by decide) rfl (Nat.le_of_ble_eq_true rfl) ?_
  intro p e s m below meth c A Q H locs ls hx hb hml hts hown hA hK hE hret hP hD hS hl
  have hown : s.vm.findClass RX6 = some m.cls := hown
  have hl : lv_has ls 2 [(0, .ref a_m), (1, .int u1)] := hl
  unfold p_X6_bears at h
  refine lv_aload_n hx hb dX6_bears_0 rfl (lv_at hl 0 rfl) ?_
  refine lv_iload_n hx hb dX6_bears_1 rfl (lv_at hl 1 rfl) ?_
  refine lv_i2l (v := u1.toInt64) hx hb dX6_bears_2 rfl ?_
  refine lv_lconst (v := 0) hx hb dX6_bears_3 (by decide) ?_
  refine lv_ldc2 hx hb hown (hts (.constantLong RX6 173 (18)) (List.mem_of_getElem? (i := 1) rfl)) dX6_bears_4 ?_
  obtain ⟨o1, hv, h⟩ := zb h
  refine z_goi (w2 := [(a_m, .inr (6, [.ref a_m_state, .ref a_m_readPage, .int m_toldOnce, .ref a_m_tape, .int m_taped, .int m_fault, .int m_broken, .int m_brokenAt, .int m_spot, .int m_here, .int m_token, .int m_value, .ref a_m_cuts, .ref a_m_letters, .int m_silent, .int m_greatest, .int m_moves, .int m_holders, .ref a_m_seen, .int m_seenMany, .ref a_m_pointBy, .ref a_m_isKept, .ref a_m_lanes, .ref a_m_lengths, .ref a_m_sheetCells, .int m_torn])), (a_m_state, .inl (k 0, 156, .inl m_state))]) [] (va_runS (As := [.long u1.toInt64, .long (0 : Int64), .long (18 : Int64)]) (rest := [.ref a_m]) ⟨hx, hb, hml, hown, hts⟩ (c_X6_in l G k tL tM sK sV H.size u1.toInt64 (0 : Int64) (18 : Int64) o1 hv) (va_cwS 3 hts gX6_bears_X6_in rfl rfl rfl (by decide +kernel) ⟨Nat.le_of_ble_eq_true rfl, Nat.le_of_ble_eq_true rfl⟩) (z_preS (wc := []) [] hK hE hA hP hD hS (by decide) rfl) rfl rfl hl.1 rfl (lv_room (Nat.le_of_ble_eq_true rfl)) dX6_bears_7 ⟨Nat.le_refl _, Nat.le_refl _⟩) hA hP hD hS rfl rfl rfl rfl (fun H locs hP hD hS => ?_)
  refine lv_bipush (v := 24) hx hb dX6_bears_10 (by decide) ?_
  refine lv_iload_n hx hb dX6_bears_12 rfl (lv_at hl 1 rfl) ?_
  refine lv_bipush (v := 9) hx hb dX6_bears_13 (by decide) ?_
  obtain ⟨o2, hv, h⟩ := zb h
  refine z_goi (w2 := [(a_m, .inr (6, [.ref a_m_state, .ref a_m_readPage, .int m_toldOnce, .ref a_m_tape, .int m_taped, .int m_fault, .int m_broken, .int m_brokenAt, .int m_spot, .int m_here, .int m_token, .int m_value, .ref a_m_cuts, .ref a_m_letters, .int m_silent, .int m_greatest, .int m_moves, .int m_holders, .ref a_m_seen, .int m_seenMany, .ref a_m_pointBy, .ref a_m_isKept, .ref a_m_lanes, .ref a_m_lengths, .ref a_m_sheetCells, .int m_torn])), (a_m_state, .inl (k 0, 156, .inl o2.2))]) [0, 1] (va_runV (As := [.int o1, .int (24 : Int32), .int u1, .int (9 : Int32)]) (rest := []) ⟨hx, hb, hml, hown, hts⟩ (c_X6_puts l G k tL tM sK sV a_m a_m_state a_m_readPage a_m_tape a_m_cuts a_m_letters a_m_seen a_m_pointBy a_m_isKept a_m_lanes a_m_lengths a_m_sheetCells H.size m_toldOnce m_taped m_fault m_broken m_brokenAt m_spot m_here m_token m_value m_silent m_greatest m_moves m_holders m_seenMany m_torn m_state o1 (24 : Int32) u1 (9 : Int32) o2 hv) (cwV 4 hts gX6_bears_X6_puts rfl rfl rfl (by decide +kernel) ⟨Nat.le_of_ble_eq_true rfl, Nat.le_of_ble_eq_true rfl⟩) (z_preV (wc := [(a_m, .inr (6, [.ref a_m_state, .ref a_m_readPage, .int m_toldOnce, .ref a_m_tape, .int m_taped, .int m_fault, .int m_broken, .int m_brokenAt, .int m_spot, .int m_here, .int m_token, .int m_value, .ref a_m_cuts, .ref a_m_letters, .int m_silent, .int m_greatest, .int m_moves, .int m_holders, .ref a_m_seen, .int m_seenMany, .ref a_m_pointBy, .ref a_m_isKept, .ref a_m_lanes, .ref a_m_lengths, .ref a_m_sheetCells, .int m_torn])), (a_m_state, .inl (k 0, 156, .inl m_state))]) [0, 1] 0 6 hK hE hA hP hD hS (by decide) rfl rfl rfl) rfl rfl hl.1 rfl (lv_room (Nat.le_of_ble_eq_true rfl)) dX6_bears_15 ⟨Nat.le_refl _, Nat.le_refl _⟩) hA hP hD hS rfl rfl rfl rfl (fun H locs hP hD hS => ?_)
  have hr := (zs h)
  subst hr
  exact hret H locs ls 18 hP hS dX6_bears_18
set_option maxHeartbeats 4000000 in
set_option maxRecDepth 100000 in
theorem c_X6_bend (l : Launch) (G : va_G) (k : Nat → ClassId) (tL tM : Nat) (sK sV : Nat → Nat) (a_m : Nat) (a_m_state : Nat) (a_m_readPage : Nat) (a_m_tape : Nat) (a_m_cuts : Nat) (a_m_letters : Nat) (a_m_seen : Nat) (a_m_pointBy : Nat) (a_m_isKept : Nat) (a_m_lanes : Nat) (a_m_lengths : Nat) (a_m_sheetCells : Nat) (sz : Nat) (m_toldOnce : Int32) (m_taped : Int32) (m_fault : Int32) (m_broken : Int32) (m_brokenAt : Int32) (m_spot : Int32) (m_here : Int32) (m_token : Int32) (m_value : Int32) (m_silent : Int32) (m_greatest : Int32) (m_moves : Int32) (m_holders : Int32) (m_seenMany : Int32) (m_torn : Int32) (m_state : Nat → Int32) (u1 : Int32) (out : Int32 × (Nat → Int32)) (h : p_X6_bend u1 m_state = some out) : zMi l yX6_bend wsX6_bend 2 45 G k tL tM sK sV [.ref a_m, .int u1] [(a_m, .inr (6, [.ref a_m_state, .ref a_m_readPage, .int m_toldOnce, .ref a_m_tape, .int m_taped, .int m_fault, .int m_broken, .int m_brokenAt, .int m_spot, .int m_here, .int m_token, .int m_value, .ref a_m_cuts, .ref a_m_letters, .int m_silent, .int m_greatest, .int m_moves, .int m_holders, .ref a_m_seen, .int m_seenMany, .ref a_m_pointBy, .ref a_m_isKept, .ref a_m_lanes, .ref a_m_lengths, .ref a_m_sheetCells, .int m_torn])), (a_m_state, .inl (k 0, 156, .inl m_state))] [(a_m, .inr (6, [.ref a_m_state, .ref a_m_readPage, .int m_toldOnce, .ref a_m_tape, .int m_taped, .int m_fault, .int m_broken, .int m_brokenAt, .int m_spot, .int m_here, .int m_token, .int m_value, .ref a_m_cuts, .ref a_m_letters, .int m_silent, .int m_greatest, .int m_moves, .int m_holders, .ref a_m_seen, .int m_seenMany, .ref a_m_pointBy, .ref a_m_isKept, .ref a_m_lanes, .ref a_m_lengths, .ref a_m_sheetCells, .int m_torn])), (a_m_state, .inl (k 0, 156, .inl out.2))] out.1 sz := by
  refine z_meti (cc := cX6_bend) (maxL := 2) (by decide) rfl (Nat.le_of_ble_eq_true rfl) ?_
  intro p e s m below meth c A Q H locs ls hx hb hml hts hown hA hK hE hret hP hD hS hl
  have hown : s.vm.findClass RX6 = some m.cls := hown
  have hl : lv_has ls 2 [(0, .ref a_m), (1, .int u1)] := hl
  unfold p_X6_bend at h
  refine lv_aload_n hx hb dX6_bend_0 rfl (lv_at hl 0 rfl) ?_
  refine lv_iload_n hx hb dX6_bend_1 rfl (lv_at hl 1 rfl) ?_
  obtain ⟨o1, hv, h⟩ := zb h
  refine z_goi (w2 := [(a_m, .inr (6, [.ref a_m_state, .ref a_m_readPage, .int m_toldOnce, .ref a_m_tape, .int m_taped, .int m_fault, .int m_broken, .int m_brokenAt, .int m_spot, .int m_here, .int m_token, .int m_value, .ref a_m_cuts, .ref a_m_letters, .int m_silent, .int m_greatest, .int m_moves, .int m_holders, .ref a_m_seen, .int m_seenMany, .ref a_m_pointBy, .ref a_m_isKept, .ref a_m_lanes, .ref a_m_lengths, .ref a_m_sheetCells, .int m_torn])), (a_m_state, .inl (k 0, 156, .inl m_state))]) [] (va_runS (As := [.int u1]) (rest := [.ref a_m]) ⟨hx, hb, hml, hown, hts⟩ (c_X6_isCell l G k tL tM sK sV H.size u1 o1 hv) (va_cwS 1 hts gX6_bend_X6_isCell rfl rfl rfl (by decide +kernel) ⟨Nat.le_of_ble_eq_true rfl, Nat.le_of_ble_eq_true rfl⟩) (z_preS (wc := []) [] hK hE hA hP hD hS (by decide) rfl) rfl rfl hl.1 rfl (lv_room (Nat.le_of_ble_eq_true rfl)) dX6_bend_2 ⟨Nat.le_refl _, Nat.le_refl _⟩) hA hP hD hS rfl rfl rfl rfl (fun H locs hP hD hS => ?_)
  refine lv_bipush (v := 22) hx hb dX6_bend_5 (by decide) ?_
  refine lv_iload_n hx hb dX6_bend_7 rfl (lv_at hl 1 rfl) ?_
  refine lv_bipush (v := 44) hx hb dX6_bend_8 (by decide) ?_
  obtain ⟨o2, hv, h⟩ := zb h
  refine z_goi (w2 := [(a_m, .inr (6, [.ref a_m_state, .ref a_m_readPage, .int m_toldOnce, .ref a_m_tape, .int m_taped, .int m_fault, .int m_broken, .int m_brokenAt, .int m_spot, .int m_here, .int m_token, .int m_value, .ref a_m_cuts, .ref a_m_letters, .int m_silent, .int m_greatest, .int m_moves, .int m_holders, .ref a_m_seen, .int m_seenMany, .ref a_m_pointBy, .ref a_m_isKept, .ref a_m_lanes, .ref a_m_lengths, .ref a_m_sheetCells, .int m_torn])), (a_m_state, .inl (k 0, 156, .inl o2.2))]) [0, 1] (va_runV (As := [.int o1, .int (22 : Int32), .int u1, .int (44 : Int32)]) (rest := []) ⟨hx, hb, hml, hown, hts⟩ (c_X6_puts l G k tL tM sK sV a_m a_m_state a_m_readPage a_m_tape a_m_cuts a_m_letters a_m_seen a_m_pointBy a_m_isKept a_m_lanes a_m_lengths a_m_sheetCells H.size m_toldOnce m_taped m_fault m_broken m_brokenAt m_spot m_here m_token m_value m_silent m_greatest m_moves m_holders m_seenMany m_torn m_state o1 (22 : Int32) u1 (44 : Int32) o2 hv) (cwV 4 hts gX6_bend_X6_puts rfl rfl rfl (by decide +kernel) ⟨Nat.le_of_ble_eq_true rfl, Nat.le_of_ble_eq_true rfl⟩) (z_preV (wc := [(a_m, .inr (6, [.ref a_m_state, .ref a_m_readPage, .int m_toldOnce, .ref a_m_tape, .int m_taped, .int m_fault, .int m_broken, .int m_brokenAt, .int m_spot, .int m_here, .int m_token, .int m_value, .ref a_m_cuts, .ref a_m_letters, .int m_silent, .int m_greatest, .int m_moves, .int m_holders, .ref a_m_seen, .int m_seenMany, .ref a_m_pointBy, .ref a_m_isKept, .ref a_m_lanes, .ref a_m_lengths, .ref a_m_sheetCells, .int m_torn])), (a_m_state, .inl (k 0, 156, .inl m_state))]) [0, 1] 0 6 hK hE hA hP hD hS (by decide) rfl rfl rfl) rfl rfl hl.1 rfl (lv_room (Nat.le_of_ble_eq_true rfl)) dX6_bend_10 ⟨Nat.le_refl _, Nat.le_refl _⟩) hA hP hD hS rfl rfl rfl rfl (fun H locs hP hD hS => ?_)
  have hr := (zs h)
  subst hr
  exact hret H locs ls 13 hP hS dX6_bend_13
set_option maxHeartbeats 4000000 in
set_option maxRecDepth 100000 in
theorem c_X6_isPut (l : Launch) (G : va_G) (k : Nat → ClassId) (tL tM : Nat) (sK sV : Nat → Nat) (sz : Nat) (u1 : Int32) (u2 : Int32) (u3 : Int32) (out : Int32) (h : p_X6_isPut u1 u2 u3 = some out) : zMi l yX6_isPut wsX6_isPut 2 45 G k tL tM sK sV [.int u1, .int u2, .int u3] [] [] out sz := by
  refine z_metz (cc := cX6_isPut) (maxL := 3) (by decide) rfl (Nat.le_of_ble_eq_true rfl) ?_
  intro p e s m below meth c A Q H locs ls hx hb hml hts hown hA hK hE hret hP hD hS hl
  have hown : s.vm.findClass RX6 = some m.cls := hown
  have hl : lv_has ls 3 [(0, .int u1), (1, .int u2), (2, .int u3)] := hl
  unfold p_X6_isPut at h
  refine lv_iload_n hx hb dX6_isPut_0 rfl (lv_at hl 0 rfl) ?_
  refine lv_i2l (v := u1.toInt64) hx hb dX6_isPut_1 rfl ?_
  refine lv_lconst (v := 0) hx hb dX6_isPut_2 (by decide) ?_
  refine lv_ldc2 hx hb hown (hts (.constantLong RX6 156 (3)) (List.mem_of_getElem? (i := 1) rfl)) dX6_isPut_3 ?_
  obtain ⟨o1, hv, h⟩ := zb h
  refine z_goi (w2 := []) [] (va_runS (As := [.long u1.toInt64, .long (0 : Int64), .long (3 : Int64)]) (rest := []) ⟨hx, hb, hml, hown, hts⟩ (c_X6_in l G k tL tM sK sV H.size u1.toInt64 (0 : Int64) (3 : Int64) o1 hv) (va_cwS 3 hts gX6_isPut_X6_in rfl rfl rfl (by decide +kernel) ⟨Nat.le_of_ble_eq_true rfl, Nat.le_of_ble_eq_true rfl⟩) (z_preS (wc := []) [] hK hE hA hP hD hS (by decide) rfl) rfl rfl hl.1 rfl (lv_room (Nat.le_of_ble_eq_true rfl)) dX6_isPut_6 ⟨Nat.le_refl _, Nat.le_refl _⟩) hA hP hD hS rfl rfl rfl rfl (fun H locs hP hD hS => ?_)
  refine lv_if_eq (tgt := 35) hx hb dX6_isPut_9 (by decide) (fun c6 => ?_) (fun c6 => ?_)
  · have h := zit c6 h
    refine lv_iconst (v := 0) hx hb dX6_isPut_35 (by decide) ?_
    have hr := (zs h)
    subst hr
    exact hret H locs ls 36 (Or.inl rfl) hP hS dX6_isPut_36
  · have h := zif c6 h
    refine lv_iload_n hx hb dX6_isPut_12 rfl (lv_at hl 1 rfl) ?_
    refine lv_i2l (v := u2.toInt64) hx hb dX6_isPut_13 rfl ?_
    refine lv_lconst (v := 1) hx hb dX6_isPut_14 (by decide) ?_
    refine lv_ldc2 hx hb hown (hts (.constantLong RX6 158 (20)) (List.mem_of_getElem? (i := 2) rfl)) dX6_isPut_15 ?_
    obtain ⟨o2, hv, h⟩ := zb h
    refine z_goi (w2 := []) [] (va_runS (As := [.long u2.toInt64, .long (1 : Int64), .long (20 : Int64)]) (rest := []) ⟨hx, hb, hml, hown, hts⟩ (c_X6_in l G k tL tM sK sV H.size u2.toInt64 (1 : Int64) (20 : Int64) o2 hv) (va_cwS 3 hts gX6_isPut_X6_in rfl rfl rfl (by decide +kernel) ⟨Nat.le_of_ble_eq_true rfl, Nat.le_of_ble_eq_true rfl⟩) (z_preS (wc := []) [] hK hE hA hP hD hS (by decide) rfl) rfl rfl hl.1 rfl (lv_room (Nat.le_of_ble_eq_true rfl)) dX6_isPut_18 ⟨Nat.le_refl _, Nat.le_refl _⟩) hA hP hD hS rfl rfl rfl rfl (fun H locs hP hD hS => ?_)
    refine lv_if_eq (tgt := 35) hx hb dX6_isPut_21 (by decide) (fun c5 => ?_) (fun c5 => ?_)
    · have h := zit c5 h
      refine lv_iconst (v := 0) hx hb dX6_isPut_35 (by decide) ?_
      have hr := (zs h)
      subst hr
      exact hret H locs ls 36 (Or.inl rfl) hP hS dX6_isPut_36
    · have h := zif c5 h
      refine lv_iload_n hx hb dX6_isPut_24 rfl (lv_at hl 2 rfl) ?_
      obtain ⟨o3, hv, h⟩ := zb h
      refine z_goi (w2 := []) [] (va_runS (As := [.int u3]) (rest := []) ⟨hx, hb, hml, hown, hts⟩ (c_X6_isCell l G k tL tM sK sV H.size u3 o3 hv) (va_cwS 1 hts gX6_isPut_X6_isCell rfl rfl rfl (by decide +kernel) ⟨Nat.le_of_ble_eq_true rfl, Nat.le_of_ble_eq_true rfl⟩) (z_preS (wc := []) [] hK hE hA hP hD hS (by decide) rfl) rfl rfl hl.1 rfl (lv_room (Nat.le_of_ble_eq_true rfl)) dX6_isPut_25 ⟨Nat.le_refl _, Nat.le_refl _⟩) hA hP hD hS rfl rfl rfl rfl (fun H locs hP hD hS => ?_)
      refine lv_if_eq (tgt := 35) hx hb dX6_isPut_28 (by decide) (fun c4 => ?_) (fun c4 => ?_)
      · have h := zit c4 h
        refine lv_iconst (v := 0) hx hb dX6_isPut_35 (by decide) ?_
        have hr := (zs h)
        subst hr
        exact hret H locs ls 36 (Or.inl rfl) hP hS dX6_isPut_36
      · have h := zif c4 h
        refine lv_iconst (v := 1) hx hb dX6_isPut_31 (by decide) ?_
        refine lv_goto (tgt := 36) hx hb dX6_isPut_32 (by decide) ?_
        have hr := (zs h)
        subst hr
        exact hret H locs ls 36 (Or.inr rfl) hP hS dX6_isPut_36
theorem iw_X6_putsOn_X6 : ∀ w ∈ wsX60, w ∈ wsX6_putsOn := fun _ h => List.mem_cons_of_mem _ (List.mem_append_right _ h)
set_option maxHeartbeats 4000000 in
set_option maxRecDepth 100000 in
theorem c_X6_putsOn (l : Launch) (G : va_G) (k : Nat → ClassId) (tL tM : Nat) (sK sV : Nat → Nat) (a_m : Nat) (a_m_state : Nat) (a_m_readPage : Nat) (a_m_tape : Nat) (a_m_cuts : Nat) (a_m_letters : Nat) (a_m_seen : Nat) (a_m_pointBy : Nat) (a_m_isKept : Nat) (a_m_lanes : Nat) (a_m_lengths : Nat) (a_m_sheetCells : Nat) (sz : Nat) (m_toldOnce : Int32) (m_taped : Int32) (m_fault : Int32) (m_broken : Int32) (m_brokenAt : Int32) (m_spot : Int32) (m_here : Int32) (m_token : Int32) (m_value : Int32) (m_silent : Int32) (m_greatest : Int32) (m_moves : Int32) (m_holders : Int32) (m_seenMany : Int32) (m_torn : Int32) (m_state : Nat → Int32) (u1 : Int32) (u2 : Int32) (u3 : Int32) (u4 : Int32) (out : (Nat → Int32)) (h : p_X6_putsOn u1 u2 u3 u4 m_state = some out) : zMv l yX6_putsOn wsX6_putsOn 0 0 G k tL tM sK sV [.ref a_m, .int u1, .int u2, .int u3, .int u4] [(a_m, .inr (6, [.ref a_m_state, .ref a_m_readPage, .int m_toldOnce, .ref a_m_tape, .int m_taped, .int m_fault, .int m_broken, .int m_brokenAt, .int m_spot, .int m_here, .int m_token, .int m_value, .ref a_m_cuts, .ref a_m_letters, .int m_silent, .int m_greatest, .int m_moves, .int m_holders, .ref a_m_seen, .int m_seenMany, .ref a_m_pointBy, .ref a_m_isKept, .ref a_m_lanes, .ref a_m_lengths, .ref a_m_sheetCells, .int m_torn])), (a_m_state, .inl (k 0, 156, .inl m_state))] [(a_m, .inr (6, [.ref a_m_state, .ref a_m_readPage, .int m_toldOnce, .ref a_m_tape, .int m_taped, .int m_fault, .int m_broken, .int m_brokenAt, .int m_spot, .int m_here, .int m_token, .int m_value, .ref a_m_cuts, .ref a_m_letters, .int m_silent, .int m_greatest, .int m_moves, .int m_holders, .ref a_m_seen, .int m_seenMany, .ref a_m_pointBy, .ref a_m_isKept, .ref a_m_lanes, .ref a_m_lengths, .ref a_m_sheetCells, .int m_torn])), (a_m_state, .inl (k 0, 156, .inl out))] sz := by
  refine z_metv (cc := cX6_putsOn) (maxL := 6) (by decide) rfl (Nat.le_of_ble_eq_true rfl) ?_
  intro p e s m below meth c A Q H locs ls hx hb hml hts hown hA hK hE hret hP hD hS hl
  have hown : s.vm.findClass RX6 = some m.cls := hown
  have hl : lv_has ls 6 [(0, .ref a_m), (1, .int u1), (2, .int u2), (3, .int u3), (4, .int u4)] := hl
  unfold p_X6_putsOn at h
  refine lv_aload_n hx hb dX6_putsOn_0 rfl (lv_at hl 0 rfl) ?_
  refine va_get (D := G) (ci := 6) (v := .ref a_m_state) (C := RX6) (T := TX6) (N := 26) hx hb hts iw_X6_putsOn_X6 hown hK hP 0 rfl rfl 0 (by decide) (hts (.fieldLink RX6 7 "SpireLeanModel" "state" "[I") (List.mem_of_getElem? (i := 1) rfl)) (fun _ h9 => h9) rfl dX6_putsOn_1 ?_
  refine lv_iload_n hx hb dX6_putsOn_4 rfl (lv_at hl 1 rfl) ?_
  refine lv_bipush (v := 20) hx hb dX6_putsOn_5 (by decide) ?_
  refine lv_iadd hx hb dX6_putsOn_7 ?_
  obtain ⟨v1, hv, h⟩ := zb h
  refine z_iald hx hb hK hP 1 0 rfl rfl hv dX6_putsOn_8 ?_
  refine lv_istore (lv' := [(5, .int v1), (0, .ref a_m), (1, .int u1), (2, .int u2), (3, .int u3), (4, .int u4)]) hx hb dX6_putsOn_9 hl (by decide) rfl (fun ls hl => ?_)
  refine lv_aload_n hx hb dX6_putsOn_11 rfl (lv_at hl 1 rfl) ?_
  refine va_get (D := G) (ci := 6) (v := .ref a_m_state) (C := RX6) (T := TX6) (N := 26) hx hb hts iw_X6_putsOn_X6 hown hK hP 0 rfl rfl 0 (by decide) (hts (.fieldLink RX6 7 "SpireLeanModel" "state" "[I") (List.mem_of_getElem? (i := 1) rfl)) (fun _ h9 => h9) rfl dX6_putsOn_12 ?_
  refine lv_iload_n hx hb dX6_putsOn_15 rfl (lv_at hl 2 rfl) ?_
  refine lv_iload hx hb dX6_putsOn_16 (lv_at hl 0 rfl) ?_
  refine lv_iadd hx hb dX6_putsOn_18 ?_
  refine lv_iload_n hx hb dX6_putsOn_19 rfl (lv_at hl 3 rfl) ?_
  obtain ⟨v2, hv, h⟩ := zb h
  refine z_iast hx hb hK hP hD hS 1 0 rfl rfl hv dX6_putsOn_20 (fun H locs hP hD hS => ?_)
  have hP : va_P G vwCl [(a_m, .inr (6, [.ref a_m_state, .ref a_m_readPage, .int m_toldOnce, .ref a_m_tape, .int m_taped, .int m_fault, .int m_broken, .int m_brokenAt, .int m_spot, .int m_here, .int m_token, .int m_value, .ref a_m_cuts, .ref a_m_letters, .int m_silent, .int m_greatest, .int m_moves, .int m_holders, .ref a_m_seen, .int m_seenMany, .ref a_m_pointBy, .ref a_m_isKept, .ref a_m_lanes, .ref a_m_lengths, .ref a_m_sheetCells, .int m_torn])), (a_m_state, .inl (k 0, 156, .inl v2))] H := hP
  have hD : va_D A [(a_m, .inr (6, [.ref a_m_state, .ref a_m_readPage, .int m_toldOnce, .ref a_m_tape, .int m_taped, .int m_fault, .int m_broken, .int m_brokenAt, .int m_spot, .int m_here, .int m_token, .int m_value, .ref a_m_cuts, .ref a_m_letters, .int m_silent, .int m_greatest, .int m_moves, .int m_holders, .ref a_m_seen, .int m_seenMany, .ref a_m_pointBy, .ref a_m_isKept, .ref a_m_lanes, .ref a_m_lengths, .ref a_m_sheetCells, .int m_torn])), (a_m_state, .inl (k 0, 156, .inl v2))] := hD
  refine lv_aload_n hx hb dX6_putsOn_21 rfl (lv_at hl 1 rfl) ?_
  refine va_get (D := G) (ci := 6) (v := .ref a_m_state) (C := RX6) (T := TX6) (N := 26) hx hb hts iw_X6_putsOn_X6 hown hK hP 0 rfl rfl 0 (by decide) (hts (.fieldLink RX6 7 "SpireLeanModel" "state" "[I") (List.mem_of_getElem? (i := 1) rfl)) (fun _ h9 => h9) rfl dX6_putsOn_22 ?_
  refine lv_iload_n hx hb dX6_putsOn_25 rfl (lv_at hl 2 rfl) ?_
  refine lv_iconst (v := 5) hx hb dX6_putsOn_26 (by decide) ?_
  refine lv_iadd hx hb dX6_putsOn_27 ?_
  refine lv_iload hx hb dX6_putsOn_28 (lv_at hl 0 rfl) ?_
  refine lv_iadd hx hb dX6_putsOn_30 ?_
  refine lv_iload_n hx hb dX6_putsOn_31 rfl (lv_at hl 4 rfl) ?_
  obtain ⟨v3, hv, h⟩ := zb h
  refine z_iast hx hb hK hP hD hS 1 0 rfl rfl hv dX6_putsOn_32 (fun H locs hP hD hS => ?_)
  have hP : va_P G vwCl [(a_m, .inr (6, [.ref a_m_state, .ref a_m_readPage, .int m_toldOnce, .ref a_m_tape, .int m_taped, .int m_fault, .int m_broken, .int m_brokenAt, .int m_spot, .int m_here, .int m_token, .int m_value, .ref a_m_cuts, .ref a_m_letters, .int m_silent, .int m_greatest, .int m_moves, .int m_holders, .ref a_m_seen, .int m_seenMany, .ref a_m_pointBy, .ref a_m_isKept, .ref a_m_lanes, .ref a_m_lengths, .ref a_m_sheetCells, .int m_torn])), (a_m_state, .inl (k 0, 156, .inl v3))] H := hP
  have hD : va_D A [(a_m, .inr (6, [.ref a_m_state, .ref a_m_readPage, .int m_toldOnce, .ref a_m_tape, .int m_taped, .int m_fault, .int m_broken, .int m_brokenAt, .int m_spot, .int m_here, .int m_token, .int m_value, .ref a_m_cuts, .ref a_m_letters, .int m_silent, .int m_greatest, .int m_moves, .int m_holders, .ref a_m_seen, .int m_seenMany, .ref a_m_pointBy, .ref a_m_isKept, .ref a_m_lanes, .ref a_m_lengths, .ref a_m_sheetCells, .int m_torn])), (a_m_state, .inl (k 0, 156, .inl v3))] := hD
  refine lv_aload_n hx hb dX6_putsOn_33 rfl (lv_at hl 1 rfl) ?_
  refine va_get (D := G) (ci := 6) (v := .ref a_m_state) (C := RX6) (T := TX6) (N := 26) hx hb hts iw_X6_putsOn_X6 hown hK hP 0 rfl rfl 0 (by decide) (hts (.fieldLink RX6 7 "SpireLeanModel" "state" "[I") (List.mem_of_getElem? (i := 1) rfl)) (fun _ h9 => h9) rfl dX6_putsOn_34 ?_
  refine lv_iload_n hx hb dX6_putsOn_37 rfl (lv_at hl 2 rfl) ?_
  refine lv_bipush (v := 10) hx hb dX6_putsOn_38 (by decide) ?_
  refine lv_iadd hx hb dX6_putsOn_40 ?_
  refine lv_iload hx hb dX6_putsOn_41 (lv_at hl 0 rfl) ?_
  refine lv_iadd hx hb dX6_putsOn_43 ?_
  refine lv_iload hx hb dX6_putsOn_44 (lv_at hl 5 rfl) ?_
  obtain ⟨v4, hv, h⟩ := zb h
  refine z_iast hx hb hK hP hD hS 1 0 rfl rfl hv dX6_putsOn_46 (fun H locs hP hD hS => ?_)
  have hP : va_P G vwCl [(a_m, .inr (6, [.ref a_m_state, .ref a_m_readPage, .int m_toldOnce, .ref a_m_tape, .int m_taped, .int m_fault, .int m_broken, .int m_brokenAt, .int m_spot, .int m_here, .int m_token, .int m_value, .ref a_m_cuts, .ref a_m_letters, .int m_silent, .int m_greatest, .int m_moves, .int m_holders, .ref a_m_seen, .int m_seenMany, .ref a_m_pointBy, .ref a_m_isKept, .ref a_m_lanes, .ref a_m_lengths, .ref a_m_sheetCells, .int m_torn])), (a_m_state, .inl (k 0, 156, .inl v4))] H := hP
  have hD : va_D A [(a_m, .inr (6, [.ref a_m_state, .ref a_m_readPage, .int m_toldOnce, .ref a_m_tape, .int m_taped, .int m_fault, .int m_broken, .int m_brokenAt, .int m_spot, .int m_here, .int m_token, .int m_value, .ref a_m_cuts, .ref a_m_letters, .int m_silent, .int m_greatest, .int m_moves, .int m_holders, .ref a_m_seen, .int m_seenMany, .ref a_m_pointBy, .ref a_m_isKept, .ref a_m_lanes, .ref a_m_lengths, .ref a_m_sheetCells, .int m_torn])), (a_m_state, .inl (k 0, 156, .inl v4))] := hD
  refine lv_aload_n hx hb dX6_putsOn_47 rfl (lv_at hl 1 rfl) ?_
  refine va_get (D := G) (ci := 6) (v := .ref a_m_state) (C := RX6) (T := TX6) (N := 26) hx hb hts iw_X6_putsOn_X6 hown hK hP 0 rfl rfl 0 (by decide) (hts (.fieldLink RX6 7 "SpireLeanModel" "state" "[I") (List.mem_of_getElem? (i := 1) rfl)) (fun _ h9 => h9) rfl dX6_putsOn_48 ?_
  refine lv_iload_n hx hb dX6_putsOn_51 rfl (lv_at hl 2 rfl) ?_
  refine lv_bipush (v := 15) hx hb dX6_putsOn_52 (by decide) ?_
  refine lv_iadd hx hb dX6_putsOn_54 ?_
  refine lv_iload hx hb dX6_putsOn_55 (lv_at hl 0 rfl) ?_
  refine lv_iadd hx hb dX6_putsOn_57 ?_
  refine lv_iconst (v := 0) hx hb dX6_putsOn_58 (by decide) ?_
  obtain ⟨v5, hv, h⟩ := zb h
  refine z_iast hx hb hK hP hD hS 1 0 rfl rfl hv dX6_putsOn_59 (fun H locs hP hD hS => ?_)
  have hP : va_P G vwCl [(a_m, .inr (6, [.ref a_m_state, .ref a_m_readPage, .int m_toldOnce, .ref a_m_tape, .int m_taped, .int m_fault, .int m_broken, .int m_brokenAt, .int m_spot, .int m_here, .int m_token, .int m_value, .ref a_m_cuts, .ref a_m_letters, .int m_silent, .int m_greatest, .int m_moves, .int m_holders, .ref a_m_seen, .int m_seenMany, .ref a_m_pointBy, .ref a_m_isKept, .ref a_m_lanes, .ref a_m_lengths, .ref a_m_sheetCells, .int m_torn])), (a_m_state, .inl (k 0, 156, .inl v5))] H := hP
  have hD : va_D A [(a_m, .inr (6, [.ref a_m_state, .ref a_m_readPage, .int m_toldOnce, .ref a_m_tape, .int m_taped, .int m_fault, .int m_broken, .int m_brokenAt, .int m_spot, .int m_here, .int m_token, .int m_value, .ref a_m_cuts, .ref a_m_letters, .int m_silent, .int m_greatest, .int m_moves, .int m_holders, .ref a_m_seen, .int m_seenMany, .ref a_m_pointBy, .ref a_m_isKept, .ref a_m_lanes, .ref a_m_lengths, .ref a_m_sheetCells, .int m_torn])), (a_m_state, .inl (k 0, 156, .inl v5))] := hD
  refine lv_aload_n hx hb dX6_putsOn_60 rfl (lv_at hl 1 rfl) ?_
  refine va_get (D := G) (ci := 6) (v := .ref a_m_state) (C := RX6) (T := TX6) (N := 26) hx hb hts iw_X6_putsOn_X6 hown hK hP 0 rfl rfl 0 (by decide) (hts (.fieldLink RX6 7 "SpireLeanModel" "state" "[I") (List.mem_of_getElem? (i := 1) rfl)) (fun _ h9 => h9) rfl dX6_putsOn_61 ?_
  refine lv_iload_n hx hb dX6_putsOn_64 rfl (lv_at hl 2 rfl) ?_
  refine lv_bipush (v := 20) hx hb dX6_putsOn_65 (by decide) ?_
  refine lv_iadd hx hb dX6_putsOn_67 ?_
  refine lv_dup2_11 hx hb dX6_putsOn_68 rfl rfl ?_
  obtain ⟨v6, hv, h⟩ := zb h
  refine z_iald hx hb hK hP 1 0 rfl rfl hv dX6_putsOn_69 ?_
  refine lv_iconst (v := 1) hx hb dX6_putsOn_70 (by decide) ?_
  refine lv_iadd hx hb dX6_putsOn_71 ?_
  obtain ⟨v7, hv, h⟩ := zb h
  refine z_iast hx hb hK hP hD hS 1 0 rfl rfl hv dX6_putsOn_72 (fun H locs hP hD hS => ?_)
  have hP : va_P G vwCl [(a_m, .inr (6, [.ref a_m_state, .ref a_m_readPage, .int m_toldOnce, .ref a_m_tape, .int m_taped, .int m_fault, .int m_broken, .int m_brokenAt, .int m_spot, .int m_here, .int m_token, .int m_value, .ref a_m_cuts, .ref a_m_letters, .int m_silent, .int m_greatest, .int m_moves, .int m_holders, .ref a_m_seen, .int m_seenMany, .ref a_m_pointBy, .ref a_m_isKept, .ref a_m_lanes, .ref a_m_lengths, .ref a_m_sheetCells, .int m_torn])), (a_m_state, .inl (k 0, 156, .inl v7))] H := hP
  have hD : va_D A [(a_m, .inr (6, [.ref a_m_state, .ref a_m_readPage, .int m_toldOnce, .ref a_m_tape, .int m_taped, .int m_fault, .int m_broken, .int m_brokenAt, .int m_spot, .int m_here, .int m_token, .int m_value, .ref a_m_cuts, .ref a_m_letters, .int m_silent, .int m_greatest, .int m_moves, .int m_holders, .ref a_m_seen, .int m_seenMany, .ref a_m_pointBy, .ref a_m_isKept, .ref a_m_lanes, .ref a_m_lengths, .ref a_m_sheetCells, .int m_torn])), (a_m_state, .inl (k 0, 156, .inl v7))] := hD
  have hr := (zs h)
  subst hr
  exact hret H locs ls 73 hP hS dX6_putsOn_73
theorem iw_X6_put_X6 : ∀ w ∈ wsX60, w ∈ wsX6_put := fun _ h => List.mem_cons_of_mem _ (List.mem_append_right _ h)
set_option maxHeartbeats 4000000 in
set_option maxRecDepth 100000 in
theorem c_X6_put (l : Launch) (G : va_G) (k : Nat → ClassId) (tL tM : Nat) (sK sV : Nat → Nat) (a_m : Nat) (a_m_state : Nat) (a_m_readPage : Nat) (a_m_tape : Nat) (a_m_cuts : Nat) (a_m_letters : Nat) (a_m_seen : Nat) (a_m_pointBy : Nat) (a_m_isKept : Nat) (a_m_lanes : Nat) (a_m_lengths : Nat) (a_m_sheetCells : Nat) (sz : Nat) (m_toldOnce : Int32) (m_taped : Int32) (m_fault : Int32) (m_broken : Int32) (m_brokenAt : Int32) (m_spot : Int32) (m_here : Int32) (m_token : Int32) (m_value : Int32) (m_silent : Int32) (m_greatest : Int32) (m_moves : Int32) (m_holders : Int32) (m_seenMany : Int32) (m_torn : Int32) (m_state : Nat → Int32) (u1 : Int32) (u2 : Int32) (u3 : Int32) (out : Int32 × (Nat → Int32)) (h : p_X6_put u1 u2 u3 m_state = some out) : zMi l yX6_put wsX6_put 3 67 G k tL tM sK sV [.ref a_m, .int u1, .int u2, .int u3] [(a_m, .inr (6, [.ref a_m_state, .ref a_m_readPage, .int m_toldOnce, .ref a_m_tape, .int m_taped, .int m_fault, .int m_broken, .int m_brokenAt, .int m_spot, .int m_here, .int m_token, .int m_value, .ref a_m_cuts, .ref a_m_letters, .int m_silent, .int m_greatest, .int m_moves, .int m_holders, .ref a_m_seen, .int m_seenMany, .ref a_m_pointBy, .ref a_m_isKept, .ref a_m_lanes, .ref a_m_lengths, .ref a_m_sheetCells, .int m_torn])), (a_m_state, .inl (k 0, 156, .inl m_state))] [(a_m, .inr (6, [.ref a_m_state, .ref a_m_readPage, .int m_toldOnce, .ref a_m_tape, .int m_taped, .int m_fault, .int m_broken, .int m_brokenAt, .int m_spot, .int m_here, .int m_token, .int m_value, .ref a_m_cuts, .ref a_m_letters, .int m_silent, .int m_greatest, .int m_moves, .int m_holders, .ref a_m_seen, .int m_seenMany, .ref a_m_pointBy, .ref a_m_isKept, .ref a_m_lanes, .ref a_m_lengths, .ref a_m_sheetCells, .int m_torn])), (a_m_state, .inl (k 0, 156, .inl out.2))] out.1 sz := by
  refine z_meti (cc := cX6_put) (maxL := 4) (by decide) rfl (Nat.le_of_ble_eq_true rfl) ?_
  intro p e s m below meth c A Q H locs ls hx hb hml hts hown hA hK hE hret hP hD hS hl
  have hown : s.vm.findClass RX6 = some m.cls := hown
  have hl : lv_has ls 4 [(0, .ref a_m), (1, .int u1), (2, .int u2), (3, .int u3)] := hl
  unfold p_X6_put at h
  refine lv_iload_n hx hb dX6_put_0 rfl (lv_at hl 1 rfl) ?_
  refine lv_iload_n hx hb dX6_put_1 rfl (lv_at hl 2 rfl) ?_
  refine lv_iload_n hx hb dX6_put_2 rfl (lv_at hl 3 rfl) ?_
  obtain ⟨o1, hv, h⟩ := zb h
  refine z_goi (w2 := [(a_m, .inr (6, [.ref a_m_state, .ref a_m_readPage, .int m_toldOnce, .ref a_m_tape, .int m_taped, .int m_fault, .int m_broken, .int m_brokenAt, .int m_spot, .int m_here, .int m_token, .int m_value, .ref a_m_cuts, .ref a_m_letters, .int m_silent, .int m_greatest, .int m_moves, .int m_holders, .ref a_m_seen, .int m_seenMany, .ref a_m_pointBy, .ref a_m_isKept, .ref a_m_lanes, .ref a_m_lengths, .ref a_m_sheetCells, .int m_torn])), (a_m_state, .inl (k 0, 156, .inl m_state))]) [] (va_runS (As := [.int u1, .int u2, .int u3]) (rest := []) ⟨hx, hb, hml, hown, hts⟩ (c_X6_isPut l G k tL tM sK sV H.size u1 u2 u3 o1 hv) (va_cwS 3 hts gX6_put_X6_isPut rfl rfl rfl (by decide +kernel) ⟨Nat.le_of_ble_eq_true rfl, Nat.le_of_ble_eq_true rfl⟩) (z_preS (wc := []) [] hK hE hA hP hD hS (by decide) rfl) rfl rfl hl.1 rfl (lv_room (Nat.le_of_ble_eq_true rfl)) dX6_put_3 ⟨Nat.le_refl _, Nat.le_refl _⟩) hA hP hD hS rfl rfl rfl rfl (fun H locs hP hD hS => ?_)
  refine lv_if_ne (tgt := 11) hx hb dX6_put_6 (by decide) (fun c6 => ?_) (fun c6 => ?_)
  · have h := zif c6 h
    refine lv_aload_n hx hb dX6_put_11 rfl (lv_at hl 0 rfl) ?_
    refine va_get (D := G) (ci := 6) (v := .ref a_m_state) (C := RX6) (T := TX6) (N := 26) hx hb hts iw_X6_put_X6 hown hK hP 0 rfl rfl 0 (by decide) (hts (.fieldLink RX6 7 "SpireLeanModel" "state" "[I") (List.mem_of_getElem? (i := 1) rfl)) (fun _ h9 => h9) rfl dX6_put_12 ?_
    refine lv_bipush (v := 20) hx hb dX6_put_15 (by decide) ?_
    obtain ⟨v2, hv, h⟩ := zb h
    refine z_iald hx hb hK hP 1 0 rfl rfl hv dX6_put_17 ?_
    refine lv_iconst (v := 5) hx hb dX6_put_18 (by decide) ?_
    refine lv_icmp_ne (tgt := 25) hx hb dX6_put_19 (by decide) (fun c5 => ?_) (fun c5 => ?_)
    · have h := zif c5 h
      refine lv_aload_n hx hb dX6_put_25 rfl (lv_at hl 0 rfl) ?_
      refine lv_iconst (v := 0) hx hb dX6_put_26 (by decide) ?_
      refine lv_iload_n hx hb dX6_put_27 rfl (lv_at hl 1 rfl) ?_
      refine lv_iload_n hx hb dX6_put_28 rfl (lv_at hl 2 rfl) ?_
      refine lv_iload_n hx hb dX6_put_29 rfl (lv_at hl 3 rfl) ?_
      obtain ⟨o3, hv, h⟩ := zb h
      refine z_gov (w2 := [(a_m, .inr (6, [.ref a_m_state, .ref a_m_readPage, .int m_toldOnce, .ref a_m_tape, .int m_taped, .int m_fault, .int m_broken, .int m_brokenAt, .int m_spot, .int m_here, .int m_token, .int m_value, .ref a_m_cuts, .ref a_m_letters, .int m_silent, .int m_greatest, .int m_moves, .int m_holders, .ref a_m_seen, .int m_seenMany, .ref a_m_pointBy, .ref a_m_isKept, .ref a_m_lanes, .ref a_m_lengths, .ref a_m_sheetCells, .int m_torn])), (a_m_state, .inl (k 0, 156, .inl o3))]) [0, 1] (va_runV (As := [.int (0 : Int32), .int u1, .int u2, .int u3]) (rest := []) ⟨hx, hb, hml, hown, hts⟩ (c_X6_putsOn l G k tL tM sK sV a_m a_m_state a_m_readPage a_m_tape a_m_cuts a_m_letters a_m_seen a_m_pointBy a_m_isKept a_m_lanes a_m_lengths a_m_sheetCells H.size m_toldOnce m_taped m_fault m_broken m_brokenAt m_spot m_here m_token m_value m_silent m_greatest m_moves m_holders m_seenMany m_torn m_state (0 : Int32) u1 u2 u3 o3 hv) (cwV 4 hts gX6_put_X6_putsOn rfl rfl rfl (by decide +kernel) ⟨Nat.le_of_ble_eq_true rfl, Nat.le_of_ble_eq_true rfl⟩) (z_preV (wc := [(a_m, .inr (6, [.ref a_m_state, .ref a_m_readPage, .int m_toldOnce, .ref a_m_tape, .int m_taped, .int m_fault, .int m_broken, .int m_brokenAt, .int m_spot, .int m_here, .int m_token, .int m_value, .ref a_m_cuts, .ref a_m_letters, .int m_silent, .int m_greatest, .int m_moves, .int m_holders, .ref a_m_seen, .int m_seenMany, .ref a_m_pointBy, .ref a_m_isKept, .ref a_m_lanes, .ref a_m_lengths, .ref a_m_sheetCells, .int m_torn])), (a_m_state, .inl (k 0, 156, .inl m_state))]) [0, 1] 0 6 hK hE hA hP hD hS (by decide) rfl rfl rfl) rfl rfl hl.1 rfl (lv_room (Nat.le_of_ble_eq_true rfl)) dX6_put_30 ⟨Nat.le_refl _, Nat.le_refl _⟩) hA hP hD hS rfl rfl rfl rfl (fun H locs hP hD hS => ?_)
      refine lv_aload_n hx hb dX6_put_33 rfl (lv_at hl 0 rfl) ?_
      refine va_get (D := G) (ci := 6) (v := .ref a_m_state) (C := RX6) (T := TX6) (N := 26) hx hb hts iw_X6_put_X6 hown hK hP 0 rfl rfl 0 (by decide) (hts (.fieldLink RX6 7 "SpireLeanModel" "state" "[I") (List.mem_of_getElem? (i := 1) rfl)) (fun _ h9 => h9) rfl dX6_put_34 ?_
      refine lv_bipush (v := 20) hx hb dX6_put_37 (by decide) ?_
      obtain ⟨v4, hv, h⟩ := zb h
      refine z_iald hx hb hK hP 1 0 rfl rfl hv dX6_put_39 ?_
      have hr := (zs h)
      subst hr
      exact hret H locs ls 40 hP hS dX6_put_40
    · have h := zit c5 h
      refine lv_bipush (v := (-3)) hx hb dX6_put_22 (by decide) ?_
      have hr := (zs h)
      subst hr
      exact hret H locs ls 24 hP hS dX6_put_24
  · have h := zit c6 h
    refine lv_iconst (v := (-1)) hx hb dX6_put_9 (by decide) ?_
    have hr := (zs h)
    subst hr
    exact hret H locs ls 10 hP hS dX6_put_10
theorem iw_X6_raze_X6 : ∀ w ∈ wsX60, w ∈ wsX6_raze := fun _ h => List.mem_cons_of_mem _ (List.mem_append_right _ h)
set_option maxHeartbeats 4000000 in
set_option maxRecDepth 100000 in
theorem c_X6_raze (l : Launch) (G : va_G) (k : Nat → ClassId) (tL tM : Nat) (sK sV : Nat → Nat) (a_m : Nat) (a_m_state : Nat) (a_m_readPage : Nat) (a_m_tape : Nat) (a_m_cuts : Nat) (a_m_letters : Nat) (a_m_seen : Nat) (a_m_pointBy : Nat) (a_m_isKept : Nat) (a_m_lanes : Nat) (a_m_lengths : Nat) (a_m_sheetCells : Nat) (sz : Nat) (m_toldOnce : Int32) (m_taped : Int32) (m_fault : Int32) (m_broken : Int32) (m_brokenAt : Int32) (m_spot : Int32) (m_here : Int32) (m_token : Int32) (m_value : Int32) (m_silent : Int32) (m_greatest : Int32) (m_moves : Int32) (m_holders : Int32) (m_seenMany : Int32) (m_torn : Int32) (m_state : Nat → Int32) (u1 : Int32) (out : Int32 × (Nat → Int32)) (h : p_X6_raze u1 m_state = some out) : zMi l yX6_raze wsX6_raze 1 25 G k tL tM sK sV [.ref a_m, .int u1] [(a_m, .inr (6, [.ref a_m_state, .ref a_m_readPage, .int m_toldOnce, .ref a_m_tape, .int m_taped, .int m_fault, .int m_broken, .int m_brokenAt, .int m_spot, .int m_here, .int m_token, .int m_value, .ref a_m_cuts, .ref a_m_letters, .int m_silent, .int m_greatest, .int m_moves, .int m_holders, .ref a_m_seen, .int m_seenMany, .ref a_m_pointBy, .ref a_m_isKept, .ref a_m_lanes, .ref a_m_lengths, .ref a_m_sheetCells, .int m_torn])), (a_m_state, .inl (k 0, 156, .inl m_state))] [(a_m, .inr (6, [.ref a_m_state, .ref a_m_readPage, .int m_toldOnce, .ref a_m_tape, .int m_taped, .int m_fault, .int m_broken, .int m_brokenAt, .int m_spot, .int m_here, .int m_token, .int m_value, .ref a_m_cuts, .ref a_m_letters, .int m_silent, .int m_greatest, .int m_moves, .int m_holders, .ref a_m_seen, .int m_seenMany, .ref a_m_pointBy, .ref a_m_isKept, .ref a_m_lanes, .ref a_m_lengths, .ref a_m_sheetCells, .int m_torn])), (a_m_state, .inl (k 0, 156, .inl out.2))] out.1 sz := by
  refine z_meti (cc := cX6_raze) (maxL := 2) (by decide) rfl (Nat.le_of_ble_eq_true rfl) ?_
  intro p e s m below meth c A Q H locs ls hx hb hml hts hown hA hK hE hret hP hD hS hl
  have hown : s.vm.findClass RX6 = some m.cls := hown
  have hl : lv_has ls 2 [(0, .ref a_m), (1, .int u1)] := hl
  unfold p_X6_raze at h
  refine lv_aload_n hx hb dX6_raze_0 rfl (lv_at hl 0 rfl) ?_
  refine lv_iload_n hx hb dX6_raze_1 rfl (lv_at hl 1 rfl) ?_
  refine lv_i2l (v := u1.toInt64) hx hb dX6_raze_2 rfl ?_
  refine lv_lconst (v := 0) hx hb dX6_raze_3 (by decide) ?_
  refine lv_aload_n hx hb dX6_raze_4 rfl (lv_at hl 0 rfl) ?_
  refine va_get (D := G) (ci := 6) (v := .ref a_m_state) (C := RX6) (T := TX6) (N := 26) hx hb hts iw_X6_raze_X6 hown hK hP 0 rfl rfl 0 (by decide) (hts (.fieldLink RX6 7 "SpireLeanModel" "state" "[I") (List.mem_of_getElem? (i := 1) rfl)) (fun _ h9 => h9) rfl dX6_raze_5 ?_
  refine lv_bipush (v := 20) hx hb dX6_raze_8 (by decide) ?_
  obtain ⟨v1, hv, h⟩ := zb h
  refine z_iald hx hb hK hP 1 0 rfl rfl hv dX6_raze_10 ?_
  refine lv_i2l (v := v1.toInt64) hx hb dX6_raze_11 rfl ?_
  obtain ⟨o2, hv, h⟩ := zb h
  refine z_goi (w2 := [(a_m, .inr (6, [.ref a_m_state, .ref a_m_readPage, .int m_toldOnce, .ref a_m_tape, .int m_taped, .int m_fault, .int m_broken, .int m_brokenAt, .int m_spot, .int m_here, .int m_token, .int m_value, .ref a_m_cuts, .ref a_m_letters, .int m_silent, .int m_greatest, .int m_moves, .int m_holders, .ref a_m_seen, .int m_seenMany, .ref a_m_pointBy, .ref a_m_isKept, .ref a_m_lanes, .ref a_m_lengths, .ref a_m_sheetCells, .int m_torn])), (a_m_state, .inl (k 0, 156, .inl m_state))]) [] (va_runS (As := [.long u1.toInt64, .long (0 : Int64), .long v1.toInt64]) (rest := [.ref a_m]) ⟨hx, hb, hml, hown, hts⟩ (c_X6_in l G k tL tM sK sV H.size u1.toInt64 (0 : Int64) v1.toInt64 o2 hv) (va_cwS 3 hts gX6_raze_X6_in rfl rfl rfl (by decide +kernel) ⟨Nat.le_of_ble_eq_true rfl, Nat.le_of_ble_eq_true rfl⟩) (z_preS (wc := []) [] hK hE hA hP hD hS (by decide) rfl) rfl rfl hl.1 rfl (lv_room (Nat.le_of_ble_eq_true rfl)) dX6_raze_12 ⟨Nat.le_refl _, Nat.le_refl _⟩) hA hP hD hS rfl rfl rfl rfl (fun H locs hP hD hS => ?_)
  refine lv_bipush (v := 20) hx hb dX6_raze_15 (by decide) ?_
  refine lv_iload_n hx hb dX6_raze_17 rfl (lv_at hl 1 rfl) ?_
  refine lv_iconst (v := 0) hx hb dX6_raze_18 (by decide) ?_
  obtain ⟨o3, hv, h⟩ := zb h
  refine z_goi (w2 := [(a_m, .inr (6, [.ref a_m_state, .ref a_m_readPage, .int m_toldOnce, .ref a_m_tape, .int m_taped, .int m_fault, .int m_broken, .int m_brokenAt, .int m_spot, .int m_here, .int m_token, .int m_value, .ref a_m_cuts, .ref a_m_letters, .int m_silent, .int m_greatest, .int m_moves, .int m_holders, .ref a_m_seen, .int m_seenMany, .ref a_m_pointBy, .ref a_m_isKept, .ref a_m_lanes, .ref a_m_lengths, .ref a_m_sheetCells, .int m_torn])), (a_m_state, .inl (k 0, 156, .inl o3.2))]) [0, 1] (va_runV (As := [.int o2, .int (20 : Int32), .int u1, .int (0 : Int32)]) (rest := []) ⟨hx, hb, hml, hown, hts⟩ (c_X6_puts l G k tL tM sK sV a_m a_m_state a_m_readPage a_m_tape a_m_cuts a_m_letters a_m_seen a_m_pointBy a_m_isKept a_m_lanes a_m_lengths a_m_sheetCells H.size m_toldOnce m_taped m_fault m_broken m_brokenAt m_spot m_here m_token m_value m_silent m_greatest m_moves m_holders m_seenMany m_torn m_state o2 (20 : Int32) u1 (0 : Int32) o3 hv) (cwV 4 hts gX6_raze_X6_puts rfl rfl rfl (by decide +kernel) ⟨Nat.le_of_ble_eq_true rfl, Nat.le_of_ble_eq_true rfl⟩) (z_preV (wc := [(a_m, .inr (6, [.ref a_m_state, .ref a_m_readPage, .int m_toldOnce, .ref a_m_tape, .int m_taped, .int m_fault, .int m_broken, .int m_brokenAt, .int m_spot, .int m_here, .int m_token, .int m_value, .ref a_m_cuts, .ref a_m_letters, .int m_silent, .int m_greatest, .int m_moves, .int m_holders, .ref a_m_seen, .int m_seenMany, .ref a_m_pointBy, .ref a_m_isKept, .ref a_m_lanes, .ref a_m_lengths, .ref a_m_sheetCells, .int m_torn])), (a_m_state, .inl (k 0, 156, .inl m_state))]) [0, 1] 0 6 hK hE hA hP hD hS (by decide) rfl rfl rfl) rfl rfl hl.1 rfl (lv_room (Nat.le_of_ble_eq_true rfl)) dX6_raze_19 ⟨Nat.le_refl _, Nat.le_refl _⟩) hA hP hD hS rfl rfl rfl rfl (fun H locs hP hD hS => ?_)
  have hr := (zs h)
  subst hr
  exact hret H locs ls 22 hP hS dX6_raze_22
theorem iw_X6_years_X6 : ∀ w ∈ wsX60, w ∈ wsX6_years := fun _ h => List.mem_cons_of_mem _ (List.mem_append_right _ h)
set_option maxHeartbeats 4000000 in
set_option maxRecDepth 100000 in
theorem c_X6_years (l : Launch) (G : va_G) (k : Nat → ClassId) (tL tM : Nat) (sK sV : Nat → Nat) (a_m : Nat) (a_m_state : Nat) (a_m_readPage : Nat) (a_m_tape : Nat) (a_m_cuts : Nat) (a_m_letters : Nat) (a_m_seen : Nat) (a_m_pointBy : Nat) (a_m_isKept : Nat) (a_m_lanes : Nat) (a_m_lengths : Nat) (a_m_sheetCells : Nat) (sz : Nat) (m_toldOnce : Int32) (m_taped : Int32) (m_fault : Int32) (m_broken : Int32) (m_brokenAt : Int32) (m_spot : Int32) (m_here : Int32) (m_token : Int32) (m_value : Int32) (m_silent : Int32) (m_greatest : Int32) (m_moves : Int32) (m_holders : Int32) (m_seenMany : Int32) (m_torn : Int32) (m_state : Nat → Int32) (u1 : Int32) (out : Int32 × (Nat → Int32)) (h : p_X6_years u1 m_silent m_state = some out) : zMi l yX6_years wsX6_years 6 131 G k tL tM sK sV [.ref a_m, .int u1] [(a_m, .inr (6, [.ref a_m_state, .ref a_m_readPage, .int m_toldOnce, .ref a_m_tape, .int m_taped, .int m_fault, .int m_broken, .int m_brokenAt, .int m_spot, .int m_here, .int m_token, .int m_value, .ref a_m_cuts, .ref a_m_letters, .int m_silent, .int m_greatest, .int m_moves, .int m_holders, .ref a_m_seen, .int m_seenMany, .ref a_m_pointBy, .ref a_m_isKept, .ref a_m_lanes, .ref a_m_lengths, .ref a_m_sheetCells, .int m_torn])), (a_m_state, .inl (k 0, 156, .inl m_state))] [(a_m, .inr (6, [.ref a_m_state, .ref a_m_readPage, .int m_toldOnce, .ref a_m_tape, .int m_taped, .int m_fault, .int m_broken, .int m_brokenAt, .int m_spot, .int m_here, .int m_token, .int m_value, .ref a_m_cuts, .ref a_m_letters, .int m_silent, .int m_greatest, .int m_moves, .int m_holders, .ref a_m_seen, .int m_seenMany, .ref a_m_pointBy, .ref a_m_isKept, .ref a_m_lanes, .ref a_m_lengths, .ref a_m_sheetCells, .int m_torn])), (a_m_state, .inl (k 0, 156, .inl out.2))] out.1 sz := by
  refine z_meti (cc := cX6_years) (maxL := 3) (by decide) rfl (Nat.le_of_ble_eq_true rfl) ?_
  intro p e s m below meth c A Q H locs ls hx hb hml hts hown hA hK hE hret hP hD hS hl
  have hown : s.vm.findClass RX6 = some m.cls := hown
  have hl : lv_has ls 3 [(0, .ref a_m), (1, .int u1)] := hl
  unfold p_X6_years at h
  refine lv_iload_n hx hb dX6_years_0 rfl (lv_at hl 1 rfl) ?_
  refine lv_i2l (v := u1.toInt64) hx hb dX6_years_1 rfl ?_
  refine lv_lconst (v := 0) hx hb dX6_years_2 (by decide) ?_
  refine lv_ldc2 hx hb hown (hts (.constantLong RX6 183 (30)) (List.mem_of_getElem? (i := 1) rfl)) dX6_years_3 ?_
  obtain ⟨o1, hv, h⟩ := zb h
  refine z_goi (w2 := [(a_m, .inr (6, [.ref a_m_state, .ref a_m_readPage, .int m_toldOnce, .ref a_m_tape, .int m_taped, .int m_fault, .int m_broken, .int m_brokenAt, .int m_spot, .int m_here, .int m_token, .int m_value, .ref a_m_cuts, .ref a_m_letters, .int m_silent, .int m_greatest, .int m_moves, .int m_holders, .ref a_m_seen, .int m_seenMany, .ref a_m_pointBy, .ref a_m_isKept, .ref a_m_lanes, .ref a_m_lengths, .ref a_m_sheetCells, .int m_torn])), (a_m_state, .inl (k 0, 156, .inl m_state))]) [] (va_runS (As := [.long u1.toInt64, .long (0 : Int64), .long (30 : Int64)]) (rest := []) ⟨hx, hb, hml, hown, hts⟩ (c_X6_in l G k tL tM sK sV H.size u1.toInt64 (0 : Int64) (30 : Int64) o1 hv) (va_cwS 3 hts gX6_years_X6_in rfl rfl rfl (by decide +kernel) ⟨Nat.le_of_ble_eq_true rfl, Nat.le_of_ble_eq_true rfl⟩) (z_preS (wc := []) [] hK hE hA hP hD hS (by decide) rfl) rfl rfl hl.1 rfl (lv_room (Nat.le_of_ble_eq_true rfl)) dX6_years_6 ⟨Nat.le_refl _, Nat.le_refl _⟩) hA hP hD hS rfl rfl rfl rfl (fun H locs hP hD hS => ?_)
  refine lv_if_ne (tgt := 14) hx hb dX6_years_9 (by decide) (fun c13 => ?_) (fun c13 => ?_)
  · have h := zif c13 h
    refine lv_aload_n hx hb dX6_years_14 rfl (lv_at hl 0 rfl) ?_
    refine va_get (D := G) (ci := 6) (v := .ref a_m_state) (C := RX6) (T := TX6) (N := 26) hx hb hts iw_X6_years_X6 hown hK hP 0 rfl rfl 0 (by decide) (hts (.fieldLink RX6 7 "SpireLeanModel" "state" "[I") (List.mem_of_getElem? (i := 2) rfl)) (fun _ h9 => h9) rfl dX6_years_15 ?_
    refine lv_bipush (v := 25) hx hb dX6_years_18 (by decide) ?_
    obtain ⟨v2, hv, h⟩ := zb h
    refine z_iald hx hb hK hP 1 0 rfl rfl hv dX6_years_20 ?_
    refine lv_iload_n hx hb dX6_years_21 rfl (lv_at hl 1 rfl) ?_
    refine lv_iadd hx hb dX6_years_22 ?_
    refine lv_sipush (v := 999) hx hb dX6_years_23 (by decide) ?_
    refine lv_icmp_le (tgt := 32) hx hb dX6_years_26 (by decide) (fun c12 => ?_) (fun c12 => ?_)
    · have h := zit c12 h
      refine lv_iconst (v := 0) hx hb dX6_years_32 (by decide) ?_
      refine lv_istore_n (lv' := [(2, .int (0 : Int32)), (0, .ref a_m), (1, .int u1)]) hx hb dX6_years_33 rfl hl (by decide) rfl (fun ls hl => ?_)
      obtain ⟨e7, hv, h⟩ := zb h
      have hJ6 : ∀ (e7_ : (Nat → Int32)), e7_ = e7 → zW p l e (zR 6 131) s m ([.ref a_m, .int u1] : List Value).toArray below meth c Q 3 A G [(a_m, .inr (6, [.ref a_m_state, .ref a_m_readPage, .int m_toldOnce, .ref a_m_tape, .int m_taped, .int m_fault, .int m_broken, .int m_brokenAt, .int m_spot, .int m_here, .int m_token, .int m_value, .ref a_m_cuts, .ref a_m_letters, .int m_silent, .int m_greatest, .int m_moves, .int m_holders, .ref a_m_seen, .int m_seenMany, .ref a_m_pointBy, .ref a_m_isKept, .ref a_m_lanes, .ref a_m_lengths, .ref a_m_sheetCells, .int m_torn])), (a_m_state, .inl (k 0, 156, .inl e7_))] [(0, .ref a_m)] 50 [] := by
        intro e7_ hz
        subst hz
        intro H locs ls hP hD hS hl
        refine lv_aload_n hx hb dX6_years_50 rfl (lv_at hl 0 rfl) ?_
        refine lv_iconst (v := 0) hx hb dX6_years_51 (by decide) ?_
        obtain ⟨o11, hv, h⟩ := zb h
        refine z_goi (w2 := [(a_m, .inr (6, [.ref a_m_state, .ref a_m_readPage, .int m_toldOnce, .ref a_m_tape, .int m_taped, .int m_fault, .int m_broken, .int m_brokenAt, .int m_spot, .int m_here, .int m_token, .int m_value, .ref a_m_cuts, .ref a_m_letters, .int m_silent, .int m_greatest, .int m_moves, .int m_holders, .ref a_m_seen, .int m_seenMany, .ref a_m_pointBy, .ref a_m_isKept, .ref a_m_lanes, .ref a_m_lengths, .ref a_m_sheetCells, .int m_torn])), (a_m_state, .inl (k 0, 156, .inl e7_))]) [0, 1] (va_runV (As := [.int (0 : Int32)]) (rest := []) ⟨hx, hb, hml, hown, hts⟩ (c_X6_pointOn l G k tL tM sK sV a_m a_m_state a_m_readPage a_m_tape a_m_cuts a_m_letters a_m_seen a_m_pointBy a_m_isKept a_m_lanes a_m_lengths a_m_sheetCells H.size m_toldOnce m_taped m_fault m_broken m_brokenAt m_spot m_here m_token m_value m_silent m_greatest m_moves m_holders m_seenMany m_torn e7_ (0 : Int32) o11 hv) (cwV 1 hts gX6_years_X6_pointOn rfl rfl rfl (by decide +kernel) ⟨Nat.le_of_ble_eq_true rfl, Nat.le_of_ble_eq_true rfl⟩) (z_preV (wc := [(a_m, .inr (6, [.ref a_m_state, .ref a_m_readPage, .int m_toldOnce, .ref a_m_tape, .int m_taped, .int m_fault, .int m_broken, .int m_brokenAt, .int m_spot, .int m_here, .int m_token, .int m_value, .ref a_m_cuts, .ref a_m_letters, .int m_silent, .int m_greatest, .int m_moves, .int m_holders, .ref a_m_seen, .int m_seenMany, .ref a_m_pointBy, .ref a_m_isKept, .ref a_m_lanes, .ref a_m_lengths, .ref a_m_sheetCells, .int m_torn])), (a_m_state, .inl (k 0, 156, .inl e7_))]) [0, 1] 0 6 hK hE hA hP hD hS (by decide) rfl rfl rfl) rfl rfl hl.1 rfl (lv_room (Nat.le_of_ble_eq_true rfl)) dX6_years_52 ⟨Nat.le_refl _, Nat.le_refl _⟩) hA hP hD hS rfl rfl rfl rfl (fun H locs hP hD hS => ?_)
        have hr := (zs h)
        subst hr
        exact hret H locs ls 55 hP hS dX6_years_55
      refine z_lpW (Wh := fun (x3 : Int32 × (Nat → Int32)) => zW p l e (zR 6 131) s m ([.ref a_m, .int u1] : List Value).toArray below meth c Q 3 A G [(a_m, .inr (6, [.ref a_m_state, .ref a_m_readPage, .int m_toldOnce, .ref a_m_tape, .int m_taped, .int m_fault, .int m_broken, .int m_brokenAt, .int m_spot, .int m_here, .int m_token, .int m_value, .ref a_m_cuts, .ref a_m_letters, .int m_silent, .int m_greatest, .int m_moves, .int m_holders, .ref a_m_seen, .int m_seenMany, .ref a_m_pointBy, .ref a_m_isKept, .ref a_m_lanes, .ref a_m_lengths, .ref a_m_sheetCells, .int m_torn])), (a_m_state, .inl (k 0, 156, .inl x3.2))] [(0, .ref a_m), (1, .int u1), (2, .int x3.1)] 34 []) ?_ 1000 _ hv H locs ls hP hD hS (lv_sub hl [1, 2, 0] rfl)
      clear h
      intro x3 o h hC4 hX5 H locs ls hP hD hS hl
      unfold p_X6_years_b34 at h
      refine lv_iload_n hx hb dX6_years_34 rfl (lv_at hl 2 rfl) ?_
      refine lv_iload_n hx hb dX6_years_35 rfl (lv_at hl 1 rfl) ?_
      refine lv_icmp_ge (tgt := 50) hx hb dX6_years_36 (by decide) (fun c10 => ?_) (fun c10 => ?_)
      · have h := zit c10 h
        exact hJ6 _ (hX5 _ (zs h)) H locs ls hP hD hS (lv_sub hl [0] rfl)
      · have h := zif c10 h
        refine lv_aload_n hx hb dX6_years_39 rfl (lv_at hl 0 rfl) ?_
        refine lv_iconst (v := 0) hx hb dX6_years_40 (by decide) ?_
        obtain ⟨o9, hv, h⟩ := zb h
        refine z_gov (w2 := [(a_m, .inr (6, [.ref a_m_state, .ref a_m_readPage, .int m_toldOnce, .ref a_m_tape, .int m_taped, .int m_fault, .int m_broken, .int m_brokenAt, .int m_spot, .int m_here, .int m_token, .int m_value, .ref a_m_cuts, .ref a_m_letters, .int m_silent, .int m_greatest, .int m_moves, .int m_holders, .ref a_m_seen, .int m_seenMany, .ref a_m_pointBy, .ref a_m_isKept, .ref a_m_lanes, .ref a_m_lengths, .ref a_m_sheetCells, .int m_torn])), (a_m_state, .inl (k 0, 156, .inl o9))]) [0, 1] (va_runV (As := [.int (0 : Int32)]) (rest := []) ⟨hx, hb, hml, hown, hts⟩ (c_X6_yearOn l G k tL tM sK sV a_m a_m_state a_m_readPage a_m_tape a_m_cuts a_m_letters a_m_seen a_m_pointBy a_m_isKept a_m_lanes a_m_lengths a_m_sheetCells H.size m_toldOnce m_taped m_fault m_broken m_brokenAt m_spot m_here m_token m_value m_silent m_greatest m_moves m_holders m_seenMany m_torn x3.2 (0 : Int32) o9 hv) (cwV 1 hts gX6_years_X6_yearOn rfl rfl rfl (by decide +kernel) ⟨Nat.le_of_ble_eq_true rfl, Nat.le_of_ble_eq_true rfl⟩) (z_preV (wc := [(a_m, .inr (6, [.ref a_m_state, .ref a_m_readPage, .int m_toldOnce, .ref a_m_tape, .int m_taped, .int m_fault, .int m_broken, .int m_brokenAt, .int m_spot, .int m_here, .int m_token, .int m_value, .ref a_m_cuts, .ref a_m_letters, .int m_silent, .int m_greatest, .int m_moves, .int m_holders, .ref a_m_seen, .int m_seenMany, .ref a_m_pointBy, .ref a_m_isKept, .ref a_m_lanes, .ref a_m_lengths, .ref a_m_sheetCells, .int m_torn])), (a_m_state, .inl (k 0, 156, .inl x3.2))]) [0, 1] 0 6 hK hE hA hP hD hS (by decide) rfl rfl rfl) rfl rfl hl.1 rfl (lv_room (Nat.le_of_ble_eq_true rfl)) dX6_years_41 ⟨Nat.le_refl _, Nat.le_refl _⟩) hA hP hD hS rfl rfl rfl rfl (fun H locs hP hD hS => ?_)
        refine lv_iinc (v := x3.1 + (1 : Int32)) (lv' := [(2, .int (x3.1 + (1 : Int32))), (0, .ref a_m), (1, .int u1)]) hx hb dX6_years_44 hl (k := 2) rfl rfl (by decide) rfl (fun ls hl => ?_)
        refine lv_goto (tgt := 34) hx hb dX6_years_47 (by decide) ?_
        exact hC4 _ (zs h) H locs ls hP hD hS (lv_sub hl [1, 2, 0] rfl)
    · have h := zif c12 h
      refine lv_bipush (v := (-3)) hx hb dX6_years_29 (by decide) ?_
      have hr := (zs h)
      subst hr
      exact hret H locs ls 31 hP hS dX6_years_31
  · have h := zit c13 h
    refine lv_iconst (v := (-1)) hx hb dX6_years_12 (by decide) ?_
    have hr := (zs h)
    subst hr
    exact hret H locs ls 13 hP hS dX6_years_13
theorem iw_X6_copies_X6 : ∀ w ∈ wsX60, w ∈ wsX6_copies := fun _ h => List.mem_cons_of_mem _ (List.mem_append_right _ h)
set_option maxHeartbeats 4000000 in
set_option maxRecDepth 100000 in
theorem c_X6_copies (l : Launch) (G : va_G) (k : Nat → ClassId) (tL tM : Nat) (sK sV : Nat → Nat) (a_m : Nat) (a_m_state : Nat) (a_m_readPage : Nat) (a_m_tape : Nat) (a_m_cuts : Nat) (a_m_letters : Nat) (a_m_seen : Nat) (a_m_pointBy : Nat) (a_m_isKept : Nat) (a_m_lanes : Nat) (a_m_lengths : Nat) (a_m_sheetCells : Nat) (sz : Nat) (m_toldOnce : Int32) (m_taped : Int32) (m_fault : Int32) (m_broken : Int32) (m_brokenAt : Int32) (m_spot : Int32) (m_here : Int32) (m_token : Int32) (m_value : Int32) (m_silent : Int32) (m_greatest : Int32) (m_moves : Int32) (m_holders : Int32) (m_seenMany : Int32) (m_torn : Int32) (m_state : Nat → Int32) (u1 : Int32) (u2 : Int32) (out : (Nat → Int32)) (h : p_X6_copies u1 u2 m_state = some out) : zMv l yX6_copies wsX6_copies 0 0 G k tL tM sK sV [.ref a_m, .int u1, .int u2] [(a_m, .inr (6, [.ref a_m_state, .ref a_m_readPage, .int m_toldOnce, .ref a_m_tape, .int m_taped, .int m_fault, .int m_broken, .int m_brokenAt, .int m_spot, .int m_here, .int m_token, .int m_value, .ref a_m_cuts, .ref a_m_letters, .int m_silent, .int m_greatest, .int m_moves, .int m_holders, .ref a_m_seen, .int m_seenMany, .ref a_m_pointBy, .ref a_m_isKept, .ref a_m_lanes, .ref a_m_lengths, .ref a_m_sheetCells, .int m_torn])), (a_m_state, .inl (k 0, 156, .inl m_state))] [(a_m, .inr (6, [.ref a_m_state, .ref a_m_readPage, .int m_toldOnce, .ref a_m_tape, .int m_taped, .int m_fault, .int m_broken, .int m_brokenAt, .int m_spot, .int m_here, .int m_token, .int m_value, .ref a_m_cuts, .ref a_m_letters, .int m_silent, .int m_greatest, .int m_moves, .int m_holders, .ref a_m_seen, .int m_seenMany, .ref a_m_pointBy, .ref a_m_isKept, .ref a_m_lanes, .ref a_m_lengths, .ref a_m_sheetCells, .int m_torn])), (a_m_state, .inl (k 0, 156, .inl out))] sz := by
  refine z_metv (cc := cX6_copies) (maxL := 4) (by decide) rfl (Nat.le_of_ble_eq_true rfl) ?_
  intro p e s m below meth c A Q H locs ls hx hb hml hts hown hA hK hE hret hP hD hS hl
  have hown : s.vm.findClass RX6 = some m.cls := hown
  have hl : lv_has ls 4 [(0, .ref a_m), (1, .int u1), (2, .int u2)] := hl
  unfold p_X6_copies at h
  refine lv_iconst (v := 0) hx hb dX6_copies_0 (by decide) ?_
  refine lv_istore_n (lv' := [(3, .int (0 : Int32)), (0, .ref a_m), (1, .int u1), (2, .int u2)]) hx hb dX6_copies_1 rfl hl (by decide) rfl (fun ls hl => ?_)
  obtain ⟨e5, hv, h⟩ := zb h
  have hJ4 : ∀ (e5_ : (Nat → Int32)), e5_ = e5 → zW p l e (zR 0 0) s m ([.ref a_m, .int u1, .int u2] : List Value).toArray below meth c Q 4 A G [(a_m, .inr (6, [.ref a_m_state, .ref a_m_readPage, .int m_toldOnce, .ref a_m_tape, .int m_taped, .int m_fault, .int m_broken, .int m_brokenAt, .int m_spot, .int m_here, .int m_token, .int m_value, .ref a_m_cuts, .ref a_m_letters, .int m_silent, .int m_greatest, .int m_moves, .int m_holders, .ref a_m_seen, .int m_seenMany, .ref a_m_pointBy, .ref a_m_isKept, .ref a_m_lanes, .ref a_m_lengths, .ref a_m_sheetCells, .int m_torn])), (a_m_state, .inl (k 0, 156, .inl e5_))] [] 30 [] := by
    intro e5_ hz
    subst hz
    intro H locs ls hP hD hS hl
    have hr := (zs h)
    subst hr
    exact hret H locs ls 30 hP hS dX6_copies_30
  refine z_lpW (Wh := fun (x1 : Int32 × (Nat → Int32)) => zW p l e (zR 0 0) s m ([.ref a_m, .int u1, .int u2] : List Value).toArray below meth c Q 4 A G [(a_m, .inr (6, [.ref a_m_state, .ref a_m_readPage, .int m_toldOnce, .ref a_m_tape, .int m_taped, .int m_fault, .int m_broken, .int m_brokenAt, .int m_spot, .int m_here, .int m_token, .int m_value, .ref a_m_cuts, .ref a_m_letters, .int m_silent, .int m_greatest, .int m_moves, .int m_holders, .ref a_m_seen, .int m_seenMany, .ref a_m_pointBy, .ref a_m_isKept, .ref a_m_lanes, .ref a_m_lengths, .ref a_m_sheetCells, .int m_torn])), (a_m_state, .inl (k 0, 156, .inl x1.2))] [(0, .ref a_m), (1, .int u1), (2, .int u2), (3, .int x1.1)] 2 []) ?_ 1000 _ hv H locs ls hP hD hS (lv_sub hl [1, 2, 3, 0] rfl)
  clear h
  intro x1 o h hC2 hX3 H locs ls hP hD hS hl
  unfold p_X6_copies_b2 at h
  refine lv_iload_n hx hb dX6_copies_2 rfl (lv_at hl 3 rfl) ?_
  refine lv_bipush (v := 26) hx hb dX6_copies_3 (by decide) ?_
  refine lv_icmp_ge (tgt := 30) hx hb dX6_copies_5 (by decide) (fun c9 => ?_) (fun c9 => ?_)
  · have h := zit c9 h
    exact hJ4 _ (hX3 _ (zs h)) H locs ls hP hD hS (lv_sub hl [] rfl)
  · have h := zif c9 h
    refine lv_aload_n hx hb dX6_copies_8 rfl (lv_at hl 0 rfl) ?_
    refine va_get (D := G) (ci := 6) (v := .ref a_m_state) (C := RX6) (T := TX6) (N := 26) hx hb hts iw_X6_copies_X6 hown hK hP 0 rfl rfl 0 (by decide) (hts (.fieldLink RX6 7 "SpireLeanModel" "state" "[I") (List.mem_of_getElem? (i := 1) rfl)) (fun _ h9 => h9) rfl dX6_copies_9 ?_
    refine lv_iload_n hx hb dX6_copies_12 rfl (lv_at hl 2 rfl) ?_
    refine lv_iload_n hx hb dX6_copies_13 rfl (lv_at hl 3 rfl) ?_
    refine lv_iadd hx hb dX6_copies_14 ?_
    refine lv_aload_n hx hb dX6_copies_15 rfl (lv_at hl 0 rfl) ?_
    refine va_get (D := G) (ci := 6) (v := .ref a_m_state) (C := RX6) (T := TX6) (N := 26) hx hb hts iw_X6_copies_X6 hown hK hP 0 rfl rfl 0 (by decide) (hts (.fieldLink RX6 7 "SpireLeanModel" "state" "[I") (List.mem_of_getElem? (i := 1) rfl)) (fun _ h9 => h9) rfl dX6_copies_16 ?_
    refine lv_iload_n hx hb dX6_copies_19 rfl (lv_at hl 1 rfl) ?_
    refine lv_iload_n hx hb dX6_copies_20 rfl (lv_at hl 3 rfl) ?_
    refine lv_iadd hx hb dX6_copies_21 ?_
    obtain ⟨v7, hv, h⟩ := zb h
    refine z_iald hx hb hK hP 1 0 rfl rfl hv dX6_copies_22 ?_
    obtain ⟨v8, hv, h⟩ := zb h
    refine z_iast hx hb hK hP hD hS 1 0 rfl rfl hv dX6_copies_23 (fun H locs hP hD hS => ?_)
    have hP : va_P G vwCl [(a_m, .inr (6, [.ref a_m_state, .ref a_m_readPage, .int m_toldOnce, .ref a_m_tape, .int m_taped, .int m_fault, .int m_broken, .int m_brokenAt, .int m_spot, .int m_here, .int m_token, .int m_value, .ref a_m_cuts, .ref a_m_letters, .int m_silent, .int m_greatest, .int m_moves, .int m_holders, .ref a_m_seen, .int m_seenMany, .ref a_m_pointBy, .ref a_m_isKept, .ref a_m_lanes, .ref a_m_lengths, .ref a_m_sheetCells, .int m_torn])), (a_m_state, .inl (k 0, 156, .inl v8))] H := hP
    have hD : va_D A [(a_m, .inr (6, [.ref a_m_state, .ref a_m_readPage, .int m_toldOnce, .ref a_m_tape, .int m_taped, .int m_fault, .int m_broken, .int m_brokenAt, .int m_spot, .int m_here, .int m_token, .int m_value, .ref a_m_cuts, .ref a_m_letters, .int m_silent, .int m_greatest, .int m_moves, .int m_holders, .ref a_m_seen, .int m_seenMany, .ref a_m_pointBy, .ref a_m_isKept, .ref a_m_lanes, .ref a_m_lengths, .ref a_m_sheetCells, .int m_torn])), (a_m_state, .inl (k 0, 156, .inl v8))] := hD
    refine lv_iinc (v := x1.1 + (1 : Int32)) (lv' := [(3, .int (x1.1 + (1 : Int32))), (0, .ref a_m), (1, .int u1), (2, .int u2)]) hx hb dX6_copies_24 hl (k := 3) rfl rfl (by decide) rfl (fun ls hl => ?_)
    refine lv_goto (tgt := 2) hx hb dX6_copies_27 (by decide) ?_
    exact hC2 _ (zs h) H locs ls hP hD hS (lv_sub hl [1, 2, 3, 0] rfl)
theorem iw_X6_yearsGo_X6 : ∀ w ∈ wsX60, w ∈ wsX6_yearsGo := fun _ h => List.mem_cons_of_mem _ (List.mem_append_right _ h)
set_option maxHeartbeats 4000000 in
set_option maxRecDepth 100000 in
theorem c_X6_yearsGo (l : Launch) (G : va_G) (k : Nat → ClassId) (tL tM : Nat) (sK sV : Nat → Nat) (a_m : Nat) (a_m_state : Nat) (a_m_readPage : Nat) (a_m_tape : Nat) (a_m_cuts : Nat) (a_m_letters : Nat) (a_m_seen : Nat) (a_m_pointBy : Nat) (a_m_isKept : Nat) (a_m_lanes : Nat) (a_m_lengths : Nat) (a_m_sheetCells : Nat) (sz : Nat) (m_toldOnce : Int32) (m_taped : Int32) (m_fault : Int32) (m_broken : Int32) (m_brokenAt : Int32) (m_spot : Int32) (m_here : Int32) (m_token : Int32) (m_value : Int32) (m_silent : Int32) (m_greatest : Int32) (m_moves : Int32) (m_holders : Int32) (m_seenMany : Int32) (m_torn : Int32) (m_state : Nat → Int32) (u1 : Int32) (u2 : Int32) (out : Int32 × Int32 × Int32 × (Nat → Int32)) (h : p_X6_yearsGo u1 u2 m_silent m_state = some out) : zMv l yX6_yearsGo wsX6_yearsGo 6 131 G k tL tM sK sV [.ref a_m, .int u1, .int u2] [(a_m, .inr (6, [.ref a_m_state, .ref a_m_readPage, .int m_toldOnce, .ref a_m_tape, .int m_taped, .int m_fault, .int m_broken, .int m_brokenAt, .int m_spot, .int m_here, .int m_token, .int m_value, .ref a_m_cuts, .ref a_m_letters, .int m_silent, .int m_greatest, .int m_moves, .int m_holders, .ref a_m_seen, .int m_seenMany, .ref a_m_pointBy, .ref a_m_isKept, .ref a_m_lanes, .ref a_m_lengths, .ref a_m_sheetCells, .int m_torn])), (a_m_state, .inl (k 0, 156, .inl m_state))] [(a_m, .inr (6, [.ref a_m_state, .ref a_m_readPage, .int m_toldOnce, .ref a_m_tape, .int m_taped, .int m_fault, .int m_broken, .int m_brokenAt, .int m_spot, .int m_here, .int m_token, .int m_value, .ref a_m_cuts, .ref a_m_letters, .int m_silent, .int out.1, .int out.2.1, .int out.2.2.1, .ref a_m_seen, .int m_seenMany, .ref a_m_pointBy, .ref a_m_isKept, .ref a_m_lanes, .ref a_m_lengths, .ref a_m_sheetCells, .int m_torn])), (a_m_state, .inl (k 0, 156, .inl out.2.2.2))] sz := by
  refine z_metv (cc := cX6_yearsGo) (maxL := 6) (by decide) rfl (Nat.le_of_ble_eq_true rfl) ?_
  intro p e s m below meth c A Q H locs ls hx hb hml hts hown hA hK hE hret hP hD hS hl
  have hown : s.vm.findClass RX6 = some m.cls := hown
  have hl : lv_has ls 6 [(0, .ref a_m), (1, .int u1), (2, .int u2)] := hl
  unfold p_X6_yearsGo at h
  refine lv_aload_n hx hb dX6_yearsGo_0 rfl (lv_at hl 0 rfl) ?_
  refine lv_iload_n hx hb dX6_yearsGo_1 rfl (lv_at hl 1 rfl) ?_
  refine lv_bipush (v := 104) hx hb dX6_yearsGo_2 (by decide) ?_
  obtain ⟨o1, hv, h⟩ := zb h
  refine z_gov (w2 := [(a_m, .inr (6, [.ref a_m_state, .ref a_m_readPage, .int m_toldOnce, .ref a_m_tape, .int m_taped, .int m_fault, .int m_broken, .int m_brokenAt, .int m_spot, .int m_here, .int m_token, .int m_value, .ref a_m_cuts, .ref a_m_letters, .int m_silent, .int m_greatest, .int m_moves, .int m_holders, .ref a_m_seen, .int m_seenMany, .ref a_m_pointBy, .ref a_m_isKept, .ref a_m_lanes, .ref a_m_lengths, .ref a_m_sheetCells, .int m_torn])), (a_m_state, .inl (k 0, 156, .inl o1))]) [0, 1] (va_runV (As := [.int u1, .int (104 : Int32)]) (rest := []) ⟨hx, hb, hml, hown, hts⟩ (c_X6_copies l G k tL tM sK sV a_m a_m_state a_m_readPage a_m_tape a_m_cuts a_m_letters a_m_seen a_m_pointBy a_m_isKept a_m_lanes a_m_lengths a_m_sheetCells H.size m_toldOnce m_taped m_fault m_broken m_brokenAt m_spot m_here m_token m_value m_silent m_greatest m_moves m_holders m_seenMany m_torn m_state u1 (104 : Int32) o1 hv) (cwV 2 hts gX6_yearsGo_X6_copies rfl rfl rfl (by decide +kernel) ⟨Nat.le_of_ble_eq_true rfl, Nat.le_of_ble_eq_true rfl⟩) (z_preV (wc := [(a_m, .inr (6, [.ref a_m_state, .ref a_m_readPage, .int m_toldOnce, .ref a_m_tape, .int m_taped, .int m_fault, .int m_broken, .int m_brokenAt, .int m_spot, .int m_here, .int m_token, .int m_value, .ref a_m_cuts, .ref a_m_letters, .int m_silent, .int m_greatest, .int m_moves, .int m_holders, .ref a_m_seen, .int m_seenMany, .ref a_m_pointBy, .ref a_m_isKept, .ref a_m_lanes, .ref a_m_lengths, .ref a_m_sheetCells, .int m_torn])), (a_m_state, .inl (k 0, 156, .inl m_state))]) [0, 1] 0 6 hK hE hA hP hD hS (by decide) rfl rfl rfl) rfl rfl hl.1 rfl (lv_room (Nat.le_of_ble_eq_true rfl)) dX6_yearsGo_4 ⟨Nat.le_refl _, Nat.le_refl _⟩) hA hP hD hS rfl rfl rfl rfl (fun H locs hP hD hS => ?_)
  refine lv_aload_n hx hb dX6_yearsGo_7 rfl (lv_at hl 0 rfl) ?_
  refine lv_aload_n hx hb dX6_yearsGo_8 rfl (lv_at hl 0 rfl) ?_
  refine lv_bipush (v := 104) hx hb dX6_yearsGo_9 (by decide) ?_
  obtain ⟨o2, hv, h⟩ := zb h
  refine z_goi (w2 := [(a_m, .inr (6, [.ref a_m_state, .ref a_m_readPage, .int m_toldOnce, .ref a_m_tape, .int m_taped, .int m_fault, .int m_broken, .int m_brokenAt, .int m_spot, .int m_here, .int m_token, .int m_value, .ref a_m_cuts, .ref a_m_letters, .int m_silent, .int m_greatest, .int m_moves, .int m_holders, .ref a_m_seen, .int m_seenMany, .ref a_m_pointBy, .ref a_m_isKept, .ref a_m_lanes, .ref a_m_lengths, .ref a_m_sheetCells, .int m_torn])), (a_m_state, .inl (k 0, 156, .inl o1))]) [0, 1] (va_runV (As := [.int (104 : Int32)]) (rest := [.ref a_m]) ⟨hx, hb, hml, hown, hts⟩ (c_X6_leanOn l G k tL tM sK sV a_m a_m_state a_m_readPage a_m_tape a_m_cuts a_m_letters a_m_seen a_m_pointBy a_m_isKept a_m_lanes a_m_lengths a_m_sheetCells H.size m_toldOnce m_taped m_fault m_broken m_brokenAt m_spot m_here m_token m_value m_silent m_greatest m_moves m_holders m_seenMany m_torn o1 (104 : Int32) o2 hv) (cwV 1 hts gX6_yearsGo_X6_leanOn rfl rfl rfl (by decide +kernel) ⟨Nat.le_of_ble_eq_true rfl, Nat.le_of_ble_eq_true rfl⟩) (z_preV (wc := [(a_m, .inr (6, [.ref a_m_state, .ref a_m_readPage, .int m_toldOnce, .ref a_m_tape, .int m_taped, .int m_fault, .int m_broken, .int m_brokenAt, .int m_spot, .int m_here, .int m_token, .int m_value, .ref a_m_cuts, .ref a_m_letters, .int m_silent, .int m_greatest, .int m_moves, .int m_holders, .ref a_m_seen, .int m_seenMany, .ref a_m_pointBy, .ref a_m_isKept, .ref a_m_lanes, .ref a_m_lengths, .ref a_m_sheetCells, .int m_torn])), (a_m_state, .inl (k 0, 156, .inl o1))]) [0, 1] 0 6 hK hE hA hP hD hS (by decide) rfl rfl rfl) rfl rfl hl.1 rfl (lv_room (Nat.le_of_ble_eq_true rfl)) dX6_yearsGo_11 ⟨Nat.le_refl _, Nat.le_refl _⟩) hA hP hD hS rfl rfl rfl rfl (fun H locs hP hD hS => ?_)
  refine va_put (D := G) (ci := 6) (v := .int o2) (ty := .int) (C := RX6) (T := TX6) (N := 26) hx hb hts iw_X6_yearsGo_X6 tyX6 tyX6_ok nmX6 hown hK hP hD hS 0 rfl rfl 15 (by decide) (hts (.fieldLink RX6 191 "SpireLeanModel" "greatest" "I") (List.mem_of_getElem? (i := 1) rfl)) (fun _ h9 => h9) rfl (tyX6_ok 15 (by decide)) rfl rfl (Nat.le_of_ble_eq_true rfl) dX6_yearsGo_14 (fun H locs hP hD hS => ?_)
  have hP : va_P G vwCl [(a_m, .inr (6, [.ref a_m_state, .ref a_m_readPage, .int m_toldOnce, .ref a_m_tape, .int m_taped, .int m_fault, .int m_broken, .int m_brokenAt, .int m_spot, .int m_here, .int m_token, .int m_value, .ref a_m_cuts, .ref a_m_letters, .int m_silent, .int o2, .int m_moves, .int m_holders, .ref a_m_seen, .int m_seenMany, .ref a_m_pointBy, .ref a_m_isKept, .ref a_m_lanes, .ref a_m_lengths, .ref a_m_sheetCells, .int m_torn])), (a_m_state, .inl (k 0, 156, .inl o1))] H := hP
  have hD : va_D A [(a_m, .inr (6, [.ref a_m_state, .ref a_m_readPage, .int m_toldOnce, .ref a_m_tape, .int m_taped, .int m_fault, .int m_broken, .int m_brokenAt, .int m_spot, .int m_here, .int m_token, .int m_value, .ref a_m_cuts, .ref a_m_letters, .int m_silent, .int o2, .int m_moves, .int m_holders, .ref a_m_seen, .int m_seenMany, .ref a_m_pointBy, .ref a_m_isKept, .ref a_m_lanes, .ref a_m_lengths, .ref a_m_sheetCells, .int m_torn])), (a_m_state, .inl (k 0, 156, .inl o1))] := hD
  refine lv_aload_n hx hb dX6_yearsGo_17 rfl (lv_at hl 0 rfl) ?_
  refine lv_iconst (v := 0) hx hb dX6_yearsGo_18 (by decide) ?_
  refine va_put (D := G) (ci := 6) (v := .int (0 : Int32)) (ty := .int) (C := RX6) (T := TX6) (N := 26) hx hb hts iw_X6_yearsGo_X6 tyX6 tyX6_ok nmX6 hown hK hP hD hS 0 rfl rfl 16 (by decide) (hts (.fieldLink RX6 194 "SpireLeanModel" "moves" "I") (List.mem_of_getElem? (i := 2) rfl)) (fun _ h9 => h9) rfl (tyX6_ok 16 (by decide)) rfl rfl (Nat.le_of_ble_eq_true rfl) dX6_yearsGo_19 (fun H locs hP hD hS => ?_)
  have hP : va_P G vwCl [(a_m, .inr (6, [.ref a_m_state, .ref a_m_readPage, .int m_toldOnce, .ref a_m_tape, .int m_taped, .int m_fault, .int m_broken, .int m_brokenAt, .int m_spot, .int m_here, .int m_token, .int m_value, .ref a_m_cuts, .ref a_m_letters, .int m_silent, .int o2, .int (0 : Int32), .int m_holders, .ref a_m_seen, .int m_seenMany, .ref a_m_pointBy, .ref a_m_isKept, .ref a_m_lanes, .ref a_m_lengths, .ref a_m_sheetCells, .int m_torn])), (a_m_state, .inl (k 0, 156, .inl o1))] H := hP
  have hD : va_D A [(a_m, .inr (6, [.ref a_m_state, .ref a_m_readPage, .int m_toldOnce, .ref a_m_tape, .int m_taped, .int m_fault, .int m_broken, .int m_brokenAt, .int m_spot, .int m_here, .int m_token, .int m_value, .ref a_m_cuts, .ref a_m_letters, .int m_silent, .int o2, .int (0 : Int32), .int m_holders, .ref a_m_seen, .int m_seenMany, .ref a_m_pointBy, .ref a_m_isKept, .ref a_m_lanes, .ref a_m_lengths, .ref a_m_sheetCells, .int m_torn])), (a_m_state, .inl (k 0, 156, .inl o1))] := hD
  refine lv_aload_n hx hb dX6_yearsGo_22 rfl (lv_at hl 0 rfl) ?_
  refine lv_iconst (v := 0) hx hb dX6_yearsGo_23 (by decide) ?_
  refine va_put (D := G) (ci := 6) (v := .int (0 : Int32)) (ty := .int) (C := RX6) (T := TX6) (N := 26) hx hb hts iw_X6_yearsGo_X6 tyX6 tyX6_ok nmX6 hown hK hP hD hS 0 rfl rfl 17 (by decide) (hts (.fieldLink RX6 197 "SpireLeanModel" "holders" "I") (List.mem_of_getElem? (i := 3) rfl)) (fun _ h9 => h9) rfl (tyX6_ok 17 (by decide)) rfl rfl (Nat.le_of_ble_eq_true rfl) dX6_yearsGo_24 (fun H locs hP hD hS => ?_)
  have hP : va_P G vwCl [(a_m, .inr (6, [.ref a_m_state, .ref a_m_readPage, .int m_toldOnce, .ref a_m_tape, .int m_taped, .int m_fault, .int m_broken, .int m_brokenAt, .int m_spot, .int m_here, .int m_token, .int m_value, .ref a_m_cuts, .ref a_m_letters, .int m_silent, .int o2, .int (0 : Int32), .int (0 : Int32), .ref a_m_seen, .int m_seenMany, .ref a_m_pointBy, .ref a_m_isKept, .ref a_m_lanes, .ref a_m_lengths, .ref a_m_sheetCells, .int m_torn])), (a_m_state, .inl (k 0, 156, .inl o1))] H := hP
  have hD : va_D A [(a_m, .inr (6, [.ref a_m_state, .ref a_m_readPage, .int m_toldOnce, .ref a_m_tape, .int m_taped, .int m_fault, .int m_broken, .int m_brokenAt, .int m_spot, .int m_here, .int m_token, .int m_value, .ref a_m_cuts, .ref a_m_letters, .int m_silent, .int o2, .int (0 : Int32), .int (0 : Int32), .ref a_m_seen, .int m_seenMany, .ref a_m_pointBy, .ref a_m_isKept, .ref a_m_lanes, .ref a_m_lengths, .ref a_m_sheetCells, .int m_torn])), (a_m_state, .inl (k 0, 156, .inl o1))] := hD
  refine lv_iconst (v := 0) hx hb dX6_yearsGo_27 (by decide) ?_
  refine lv_istore_n (lv' := [(3, .int (0 : Int32)), (0, .ref a_m), (1, .int u1), (2, .int u2)]) hx hb dX6_yearsGo_28 rfl hl (by decide) rfl (fun ls hl => ?_)
  obtain ⟨e7, hv, h⟩ := zb h
  have hJ6 : ∀ (e7_ : Int32 × Int32 × Int32 × (Nat → Int32)), e7_ = e7 → zW p l e (zR 6 131) s m ([.ref a_m, .int u1, .int u2] : List Value).toArray below meth c Q 6 A G [(a_m, .inr (6, [.ref a_m_state, .ref a_m_readPage, .int m_toldOnce, .ref a_m_tape, .int m_taped, .int m_fault, .int m_broken, .int m_brokenAt, .int m_spot, .int m_here, .int m_token, .int m_value, .ref a_m_cuts, .ref a_m_letters, .int m_silent, .int e7_.1, .int e7_.2.1, .int e7_.2.2.1, .ref a_m_seen, .int m_seenMany, .ref a_m_pointBy, .ref a_m_isKept, .ref a_m_lanes, .ref a_m_lengths, .ref a_m_sheetCells, .int m_torn])), (a_m_state, .inl (k 0, 156, .inl e7_.2.2.2))] [] 141 [] := by
    intro e7_ hz
    subst hz
    intro H locs ls hP hD hS hl
    have hr := (zs h)
    subst hr
    exact hret H locs ls 141 hP hS dX6_yearsGo_141
  refine z_lpW (Wh := fun (x3 : Int32 × Int32 × Int32 × Int32 × (Nat → Int32)) => zW p l e (zR 6 131) s m ([.ref a_m, .int u1, .int u2] : List Value).toArray below meth c Q 6 A G [(a_m, .inr (6, [.ref a_m_state, .ref a_m_readPage, .int m_toldOnce, .ref a_m_tape, .int m_taped, .int m_fault, .int m_broken, .int m_brokenAt, .int m_spot, .int m_here, .int m_token, .int m_value, .ref a_m_cuts, .ref a_m_letters, .int m_silent, .int x3.2.1, .int x3.2.2.1, .int x3.2.2.2.1, .ref a_m_seen, .int m_seenMany, .ref a_m_pointBy, .ref a_m_isKept, .ref a_m_lanes, .ref a_m_lengths, .ref a_m_sheetCells, .int m_torn])), (a_m_state, .inl (k 0, 156, .inl x3.2.2.2.2))] [(0, .ref a_m), (2, .int u2), (3, .int x3.1)] 29 []) ?_ 1000 _ hv H locs ls hP hD hS (lv_sub hl [1, 3, 0] rfl)
  clear h
  intro x3 o h hC4 hX5 H locs ls hP hD hS hl
  unfold p_X6_yearsGo_b29 at h
  refine lv_iload_n hx hb dX6_yearsGo_29 rfl (lv_at hl 2 rfl) ?_
  refine lv_iload_n hx hb dX6_yearsGo_30 rfl (lv_at hl 1 rfl) ?_
  refine lv_icmp_ge (tgt := 141) hx hb dX6_yearsGo_31 (by decide) (fun c24 => ?_) (fun c24 => ?_)
  · have h := zit c24 h
    exact hJ6 _ (hX5 _ (zs h)) H locs ls hP hD hS (lv_sub hl [] rfl)
  · have h := zif c24 h
    refine lv_aload_n hx hb dX6_yearsGo_34 rfl (lv_at hl 0 rfl) ?_
    refine lv_bipush (v := 104) hx hb dX6_yearsGo_35 (by decide) ?_
    obtain ⟨o9, hv, h⟩ := zb h
    refine z_goi (w2 := [(a_m, .inr (6, [.ref a_m_state, .ref a_m_readPage, .int m_toldOnce, .ref a_m_tape, .int m_taped, .int m_fault, .int m_broken, .int m_brokenAt, .int m_spot, .int m_here, .int m_token, .int m_value, .ref a_m_cuts, .ref a_m_letters, .int m_silent, .int x3.2.1, .int x3.2.2.1, .int x3.2.2.2.1, .ref a_m_seen, .int m_seenMany, .ref a_m_pointBy, .ref a_m_isKept, .ref a_m_lanes, .ref a_m_lengths, .ref a_m_sheetCells, .int m_torn])), (a_m_state, .inl (k 0, 156, .inl x3.2.2.2.2))]) [0, 1] (va_runV (As := [.int (104 : Int32)]) (rest := []) ⟨hx, hb, hml, hown, hts⟩ (c_X6_pointOn l G k tL tM sK sV a_m a_m_state a_m_readPage a_m_tape a_m_cuts a_m_letters a_m_seen a_m_pointBy a_m_isKept a_m_lanes a_m_lengths a_m_sheetCells H.size m_toldOnce m_taped m_fault m_broken m_brokenAt m_spot m_here m_token m_value m_silent x3.2.1 x3.2.2.1 x3.2.2.2.1 m_seenMany m_torn x3.2.2.2.2 (104 : Int32) o9 hv) (cwV 1 hts gX6_yearsGo_X6_pointOn rfl rfl rfl (by decide +kernel) ⟨Nat.le_of_ble_eq_true rfl, Nat.le_of_ble_eq_true rfl⟩) (z_preV (wc := [(a_m, .inr (6, [.ref a_m_state, .ref a_m_readPage, .int m_toldOnce, .ref a_m_tape, .int m_taped, .int m_fault, .int m_broken, .int m_brokenAt, .int m_spot, .int m_here, .int m_token, .int m_value, .ref a_m_cuts, .ref a_m_letters, .int m_silent, .int x3.2.1, .int x3.2.2.1, .int x3.2.2.2.1, .ref a_m_seen, .int m_seenMany, .ref a_m_pointBy, .ref a_m_isKept, .ref a_m_lanes, .ref a_m_lengths, .ref a_m_sheetCells, .int m_torn])), (a_m_state, .inl (k 0, 156, .inl x3.2.2.2.2))]) [0, 1] 0 6 hK hE hA hP hD hS (by decide) rfl rfl rfl) rfl rfl hl.1 rfl (lv_room (Nat.le_of_ble_eq_true rfl)) dX6_yearsGo_37 ⟨Nat.le_refl _, Nat.le_refl _⟩) hA hP hD hS rfl rfl rfl rfl (fun H locs hP hD hS => ?_)
    refine lv_istore (lv' := [(4, .int o9), (0, .ref a_m), (2, .int u2), (3, .int x3.1)]) hx hb dX6_yearsGo_40 hl (by decide) rfl (fun ls hl => ?_)
    refine lv_aload_n hx hb dX6_yearsGo_42 rfl (lv_at hl 1 rfl) ?_
    refine lv_bipush (v := 104) hx hb dX6_yearsGo_43 (by decide) ?_
    obtain ⟨o10, hv, h⟩ := zb h
    refine z_goi (w2 := [(a_m, .inr (6, [.ref a_m_state, .ref a_m_readPage, .int m_toldOnce, .ref a_m_tape, .int m_taped, .int m_fault, .int m_broken, .int m_brokenAt, .int m_spot, .int m_here, .int m_token, .int m_value, .ref a_m_cuts, .ref a_m_letters, .int m_silent, .int x3.2.1, .int x3.2.2.1, .int x3.2.2.2.1, .ref a_m_seen, .int m_seenMany, .ref a_m_pointBy, .ref a_m_isKept, .ref a_m_lanes, .ref a_m_lengths, .ref a_m_sheetCells, .int m_torn])), (a_m_state, .inl (k 0, 156, .inl x3.2.2.2.2))]) [0, 1] (va_runV (As := [.int (104 : Int32)]) (rest := []) ⟨hx, hb, hml, hown, hts⟩ (c_X6_holderOn l G k tL tM sK sV a_m a_m_state a_m_readPage a_m_tape a_m_cuts a_m_letters a_m_seen a_m_pointBy a_m_isKept a_m_lanes a_m_lengths a_m_sheetCells H.size m_toldOnce m_taped m_fault m_broken m_brokenAt m_spot m_here m_token m_value m_silent x3.2.1 x3.2.2.1 x3.2.2.2.1 m_seenMany m_torn x3.2.2.2.2 (104 : Int32) o10 hv) (cwV 1 hts gX6_yearsGo_X6_holderOn rfl rfl rfl (by decide +kernel) ⟨Nat.le_of_ble_eq_true rfl, Nat.le_of_ble_eq_true rfl⟩) (z_preV (wc := [(a_m, .inr (6, [.ref a_m_state, .ref a_m_readPage, .int m_toldOnce, .ref a_m_tape, .int m_taped, .int m_fault, .int m_broken, .int m_brokenAt, .int m_spot, .int m_here, .int m_token, .int m_value, .ref a_m_cuts, .ref a_m_letters, .int m_silent, .int x3.2.1, .int x3.2.2.1, .int x3.2.2.2.1, .ref a_m_seen, .int m_seenMany, .ref a_m_pointBy, .ref a_m_isKept, .ref a_m_lanes, .ref a_m_lengths, .ref a_m_sheetCells, .int m_torn])), (a_m_state, .inl (k 0, 156, .inl x3.2.2.2.2))]) [0, 1] 0 6 hK hE hA hP hD hS (by decide) rfl rfl rfl) rfl rfl hl.1 rfl (lv_room (Nat.le_of_ble_eq_true rfl)) dX6_yearsGo_45 ⟨Nat.le_refl _, Nat.le_refl _⟩) hA hP hD hS rfl rfl rfl rfl (fun H locs hP hD hS => ?_)
    refine lv_istore (lv' := [(5, .int o10), (4, .int o9), (0, .ref a_m), (2, .int u2), (3, .int x3.1)]) hx hb dX6_yearsGo_48 hl (by decide) rfl (fun ls hl => ?_)
    refine lv_aload_n hx hb dX6_yearsGo_50 rfl (lv_at hl 2 rfl) ?_
    refine lv_dup hx hb dX6_yearsGo_51 rfl ?_
    refine va_get (D := G) (ci := 6) (v := .int x3.2.2.2.1) (C := RX6) (T := TX6) (N := 26) hx hb hts iw_X6_yearsGo_X6 hown hK hP 0 rfl rfl 17 (by decide) (hts (.fieldLink RX6 197 "SpireLeanModel" "holders" "I") (List.mem_of_getElem? (i := 3) rfl)) (fun _ h9 => h9) rfl dX6_yearsGo_52 ?_
    refine lv_iload hx hb dX6_yearsGo_55 (lv_at hl 0 rfl) ?_
    refine lv_bipush (v := (-4)) hx hb dX6_yearsGo_57 (by decide) ?_
    have hJ11 : ∀ (y12 : Int32), y12 = (if o10 = (-4 : Int32) then (0 : Int32) else (1 : Int32) <<< (o10 &&& 31)) → zW p l e (zR 6 131) s m ([.ref a_m, .int u1, .int u2] : List Value).toArray below meth c Q 6 A G [(a_m, .inr (6, [.ref a_m_state, .ref a_m_readPage, .int m_toldOnce, .ref a_m_tape, .int m_taped, .int m_fault, .int m_broken, .int m_brokenAt, .int m_spot, .int m_here, .int m_token, .int m_value, .ref a_m_cuts, .ref a_m_letters, .int m_silent, .int x3.2.1, .int x3.2.2.1, .int x3.2.2.2.1, .ref a_m_seen, .int m_seenMany, .ref a_m_pointBy, .ref a_m_isKept, .ref a_m_lanes, .ref a_m_lengths, .ref a_m_sheetCells, .int m_torn])), (a_m_state, .inl (k 0, 156, .inl x3.2.2.2.2))] [(0, .ref a_m), (2, .int u2), (3, .int x3.1), (4, .int o9)] 70 [.int y12, .int x3.2.2.2.1, .ref a_m] := by
      intro y12 q13
      subst q13
      intro H locs ls hP hD hS hl
      refine lv_ior hx hb dX6_yearsGo_70 ?_
      refine va_put (D := G) (ci := 6) (v := .int (x3.2.2.2.1 ||| (if o10 = (-4 : Int32) then (0 : Int32) else (1 : Int32) <<< (o10 &&& 31)))) (ty := .int) (C := RX6) (T := TX6) (N := 26) hx hb hts iw_X6_yearsGo_X6 tyX6 tyX6_ok nmX6 hown hK hP hD hS 0 rfl rfl 17 (by decide) (hts (.fieldLink RX6 197 "SpireLeanModel" "holders" "I") (List.mem_of_getElem? (i := 3) rfl)) (fun _ h9 => h9) rfl (tyX6_ok 17 (by decide)) rfl rfl (Nat.le_of_ble_eq_true rfl) dX6_yearsGo_71 (fun H locs hP hD hS => ?_)
      have hP : va_P G vwCl [(a_m, .inr (6, [.ref a_m_state, .ref a_m_readPage, .int m_toldOnce, .ref a_m_tape, .int m_taped, .int m_fault, .int m_broken, .int m_brokenAt, .int m_spot, .int m_here, .int m_token, .int m_value, .ref a_m_cuts, .ref a_m_letters, .int m_silent, .int x3.2.1, .int x3.2.2.1, .int (x3.2.2.2.1 ||| (if o10 = (-4 : Int32) then (0 : Int32) else (1 : Int32) <<< (o10 &&& 31))), .ref a_m_seen, .int m_seenMany, .ref a_m_pointBy, .ref a_m_isKept, .ref a_m_lanes, .ref a_m_lengths, .ref a_m_sheetCells, .int m_torn])), (a_m_state, .inl (k 0, 156, .inl x3.2.2.2.2))] H := hP
      have hD : va_D A [(a_m, .inr (6, [.ref a_m_state, .ref a_m_readPage, .int m_toldOnce, .ref a_m_tape, .int m_taped, .int m_fault, .int m_broken, .int m_brokenAt, .int m_spot, .int m_here, .int m_token, .int m_value, .ref a_m_cuts, .ref a_m_letters, .int m_silent, .int x3.2.1, .int x3.2.2.1, .int (x3.2.2.2.1 ||| (if o10 = (-4 : Int32) then (0 : Int32) else (1 : Int32) <<< (o10 &&& 31))), .ref a_m_seen, .int m_seenMany, .ref a_m_pointBy, .ref a_m_isKept, .ref a_m_lanes, .ref a_m_lengths, .ref a_m_sheetCells, .int m_torn])), (a_m_state, .inl (k 0, 156, .inl x3.2.2.2.2))] := hD
      refine lv_aload_n hx hb dX6_yearsGo_74 rfl (lv_at hl 0 rfl) ?_
      refine lv_bipush (v := 104) hx hb dX6_yearsGo_75 (by decide) ?_
      obtain ⟨o15, hv, h⟩ := zb h
      refine z_gov (w2 := [(a_m, .inr (6, [.ref a_m_state, .ref a_m_readPage, .int m_toldOnce, .ref a_m_tape, .int m_taped, .int m_fault, .int m_broken, .int m_brokenAt, .int m_spot, .int m_here, .int m_token, .int m_value, .ref a_m_cuts, .ref a_m_letters, .int m_silent, .int x3.2.1, .int x3.2.2.1, .int (x3.2.2.2.1 ||| (if o10 = (-4 : Int32) then (0 : Int32) else (1 : Int32) <<< (o10 &&& 31))), .ref a_m_seen, .int m_seenMany, .ref a_m_pointBy, .ref a_m_isKept, .ref a_m_lanes, .ref a_m_lengths, .ref a_m_sheetCells, .int m_torn])), (a_m_state, .inl (k 0, 156, .inl o15))]) [0, 1] (va_runV (As := [.int (104 : Int32)]) (rest := []) ⟨hx, hb, hml, hown, hts⟩ (c_X6_yearOn l G k tL tM sK sV a_m a_m_state a_m_readPage a_m_tape a_m_cuts a_m_letters a_m_seen a_m_pointBy a_m_isKept a_m_lanes a_m_lengths a_m_sheetCells H.size m_toldOnce m_taped m_fault m_broken m_brokenAt m_spot m_here m_token m_value m_silent x3.2.1 x3.2.2.1 (x3.2.2.2.1 ||| (if o10 = (-4 : Int32) then (0 : Int32) else (1 : Int32) <<< (o10 &&& 31))) m_seenMany m_torn x3.2.2.2.2 (104 : Int32) o15 hv) (cwV 1 hts gX6_yearsGo_X6_yearOn rfl rfl rfl (by decide +kernel) ⟨Nat.le_of_ble_eq_true rfl, Nat.le_of_ble_eq_true rfl⟩) (z_preV (wc := [(a_m, .inr (6, [.ref a_m_state, .ref a_m_readPage, .int m_toldOnce, .ref a_m_tape, .int m_taped, .int m_fault, .int m_broken, .int m_brokenAt, .int m_spot, .int m_here, .int m_token, .int m_value, .ref a_m_cuts, .ref a_m_letters, .int m_silent, .int x3.2.1, .int x3.2.2.1, .int (x3.2.2.2.1 ||| (if o10 = (-4 : Int32) then (0 : Int32) else (1 : Int32) <<< (o10 &&& 31))), .ref a_m_seen, .int m_seenMany, .ref a_m_pointBy, .ref a_m_isKept, .ref a_m_lanes, .ref a_m_lengths, .ref a_m_sheetCells, .int m_torn])), (a_m_state, .inl (k 0, 156, .inl x3.2.2.2.2))]) [0, 1] 0 6 hK hE hA hP hD hS (by decide) rfl rfl rfl) rfl rfl hl.1 rfl (lv_room (Nat.le_of_ble_eq_true rfl)) dX6_yearsGo_77 ⟨Nat.le_refl _, Nat.le_refl _⟩) hA hP hD hS rfl rfl rfl rfl (fun H locs hP hD hS => ?_)
      refine lv_aload_n hx hb dX6_yearsGo_80 rfl (lv_at hl 0 rfl) ?_
      refine lv_dup hx hb dX6_yearsGo_81 rfl ?_
      refine va_get (D := G) (ci := 6) (v := .int x3.2.2.1) (C := RX6) (T := TX6) (N := 26) hx hb hts iw_X6_yearsGo_X6 hown hK hP 0 rfl rfl 16 (by decide) (hts (.fieldLink RX6 194 "SpireLeanModel" "moves" "I") (List.mem_of_getElem? (i := 2) rfl)) (fun _ h9 => h9) rfl dX6_yearsGo_82 ?_
      refine lv_aload_n hx hb dX6_yearsGo_85 rfl (lv_at hl 0 rfl) ?_
      refine lv_bipush (v := 104) hx hb dX6_yearsGo_86 (by decide) ?_
      obtain ⟨o16, hv, h⟩ := zb h
      refine z_goi (w2 := [(a_m, .inr (6, [.ref a_m_state, .ref a_m_readPage, .int m_toldOnce, .ref a_m_tape, .int m_taped, .int m_fault, .int m_broken, .int m_brokenAt, .int m_spot, .int m_here, .int m_token, .int m_value, .ref a_m_cuts, .ref a_m_letters, .int m_silent, .int x3.2.1, .int x3.2.2.1, .int (x3.2.2.2.1 ||| (if o10 = (-4 : Int32) then (0 : Int32) else (1 : Int32) <<< (o10 &&& 31))), .ref a_m_seen, .int m_seenMany, .ref a_m_pointBy, .ref a_m_isKept, .ref a_m_lanes, .ref a_m_lengths, .ref a_m_sheetCells, .int m_torn])), (a_m_state, .inl (k 0, 156, .inl o15))]) [0, 1] (va_runV (As := [.int (104 : Int32)]) (rest := [.int x3.2.2.1, .ref a_m]) ⟨hx, hb, hml, hown, hts⟩ (c_X6_pointOn l G k tL tM sK sV a_m a_m_state a_m_readPage a_m_tape a_m_cuts a_m_letters a_m_seen a_m_pointBy a_m_isKept a_m_lanes a_m_lengths a_m_sheetCells H.size m_toldOnce m_taped m_fault m_broken m_brokenAt m_spot m_here m_token m_value m_silent x3.2.1 x3.2.2.1 (x3.2.2.2.1 ||| (if o10 = (-4 : Int32) then (0 : Int32) else (1 : Int32) <<< (o10 &&& 31))) m_seenMany m_torn o15 (104 : Int32) o16 hv) (cwV 1 hts gX6_yearsGo_X6_pointOn rfl rfl rfl (by decide +kernel) ⟨Nat.le_of_ble_eq_true rfl, Nat.le_of_ble_eq_true rfl⟩) (z_preV (wc := [(a_m, .inr (6, [.ref a_m_state, .ref a_m_readPage, .int m_toldOnce, .ref a_m_tape, .int m_taped, .int m_fault, .int m_broken, .int m_brokenAt, .int m_spot, .int m_here, .int m_token, .int m_value, .ref a_m_cuts, .ref a_m_letters, .int m_silent, .int x3.2.1, .int x3.2.2.1, .int (x3.2.2.2.1 ||| (if o10 = (-4 : Int32) then (0 : Int32) else (1 : Int32) <<< (o10 &&& 31))), .ref a_m_seen, .int m_seenMany, .ref a_m_pointBy, .ref a_m_isKept, .ref a_m_lanes, .ref a_m_lengths, .ref a_m_sheetCells, .int m_torn])), (a_m_state, .inl (k 0, 156, .inl o15))]) [0, 1] 0 6 hK hE hA hP hD hS (by decide) rfl rfl rfl) rfl rfl hl.1 rfl (lv_room (Nat.le_of_ble_eq_true rfl)) dX6_yearsGo_88 ⟨Nat.le_refl _, Nat.le_refl _⟩) hA hP hD hS rfl rfl rfl rfl (fun H locs hP hD hS => ?_)
      refine lv_iload hx hb dX6_yearsGo_91 (lv_at hl 3 rfl) ?_
      have hJ17 : ∀ (y18 : Int32), y18 = (if o16 = o9 then (0 : Int32) else (1 : Int32)) → zW p l e (zR 6 131) s m ([.ref a_m, .int u1, .int u2] : List Value).toArray below meth c Q 6 A G [(a_m, .inr (6, [.ref a_m_state, .ref a_m_readPage, .int m_toldOnce, .ref a_m_tape, .int m_taped, .int m_fault, .int m_broken, .int m_brokenAt, .int m_spot, .int m_here, .int m_token, .int m_value, .ref a_m_cuts, .ref a_m_letters, .int m_silent, .int x3.2.1, .int x3.2.2.1, .int (x3.2.2.2.1 ||| (if o10 = (-4 : Int32) then (0 : Int32) else (1 : Int32) <<< (o10 &&& 31))), .ref a_m_seen, .int m_seenMany, .ref a_m_pointBy, .ref a_m_isKept, .ref a_m_lanes, .ref a_m_lengths, .ref a_m_sheetCells, .int m_torn])), (a_m_state, .inl (k 0, 156, .inl o15))] [(0, .ref a_m), (2, .int u2), (3, .int x3.1)] 101 [.int y18, .int x3.2.2.1, .ref a_m] := by
        intro y18 q19
        subst q19
        intro H locs ls hP hD hS hl
        refine lv_iadd hx hb dX6_yearsGo_101 ?_
        refine va_put (D := G) (ci := 6) (v := .int (x3.2.2.1 + (if o16 = o9 then (0 : Int32) else (1 : Int32)))) (ty := .int) (C := RX6) (T := TX6) (N := 26) hx hb hts iw_X6_yearsGo_X6 tyX6 tyX6_ok nmX6 hown hK hP hD hS 0 rfl rfl 16 (by decide) (hts (.fieldLink RX6 194 "SpireLeanModel" "moves" "I") (List.mem_of_getElem? (i := 2) rfl)) (fun _ h9 => h9) rfl (tyX6_ok 16 (by decide)) rfl rfl (Nat.le_of_ble_eq_true rfl) dX6_yearsGo_102 (fun H locs hP hD hS => ?_)
        have hP : va_P G vwCl [(a_m, .inr (6, [.ref a_m_state, .ref a_m_readPage, .int m_toldOnce, .ref a_m_tape, .int m_taped, .int m_fault, .int m_broken, .int m_brokenAt, .int m_spot, .int m_here, .int m_token, .int m_value, .ref a_m_cuts, .ref a_m_letters, .int m_silent, .int x3.2.1, .int (x3.2.2.1 + (if o16 = o9 then (0 : Int32) else (1 : Int32))), .int (x3.2.2.2.1 ||| (if o10 = (-4 : Int32) then (0 : Int32) else (1 : Int32) <<< (o10 &&& 31))), .ref a_m_seen, .int m_seenMany, .ref a_m_pointBy, .ref a_m_isKept, .ref a_m_lanes, .ref a_m_lengths, .ref a_m_sheetCells, .int m_torn])), (a_m_state, .inl (k 0, 156, .inl o15))] H := hP
        have hD : va_D A [(a_m, .inr (6, [.ref a_m_state, .ref a_m_readPage, .int m_toldOnce, .ref a_m_tape, .int m_taped, .int m_fault, .int m_broken, .int m_brokenAt, .int m_spot, .int m_here, .int m_token, .int m_value, .ref a_m_cuts, .ref a_m_letters, .int m_silent, .int x3.2.1, .int (x3.2.2.1 + (if o16 = o9 then (0 : Int32) else (1 : Int32))), .int (x3.2.2.2.1 ||| (if o10 = (-4 : Int32) then (0 : Int32) else (1 : Int32) <<< (o10 &&& 31))), .ref a_m_seen, .int m_seenMany, .ref a_m_pointBy, .ref a_m_isKept, .ref a_m_lanes, .ref a_m_lengths, .ref a_m_sheetCells, .int m_torn])), (a_m_state, .inl (k 0, 156, .inl o15))] := hD
        refine lv_aload_n hx hb dX6_yearsGo_105 rfl (lv_at hl 0 rfl) ?_
        refine lv_aload_n hx hb dX6_yearsGo_106 rfl (lv_at hl 0 rfl) ?_
        refine lv_bipush (v := 104) hx hb dX6_yearsGo_107 (by decide) ?_
        obtain ⟨o21, hv, h⟩ := zb h
        refine z_goi (w2 := [(a_m, .inr (6, [.ref a_m_state, .ref a_m_readPage, .int m_toldOnce, .ref a_m_tape, .int m_taped, .int m_fault, .int m_broken, .int m_brokenAt, .int m_spot, .int m_here, .int m_token, .int m_value, .ref a_m_cuts, .ref a_m_letters, .int m_silent, .int x3.2.1, .int (x3.2.2.1 + (if o16 = o9 then (0 : Int32) else (1 : Int32))), .int (x3.2.2.2.1 ||| (if o10 = (-4 : Int32) then (0 : Int32) else (1 : Int32) <<< (o10 &&& 31))), .ref a_m_seen, .int m_seenMany, .ref a_m_pointBy, .ref a_m_isKept, .ref a_m_lanes, .ref a_m_lengths, .ref a_m_sheetCells, .int m_torn])), (a_m_state, .inl (k 0, 156, .inl o15))]) [0, 1] (va_runV (As := [.int (104 : Int32)]) (rest := [.ref a_m]) ⟨hx, hb, hml, hown, hts⟩ (c_X6_leanOn l G k tL tM sK sV a_m a_m_state a_m_readPage a_m_tape a_m_cuts a_m_letters a_m_seen a_m_pointBy a_m_isKept a_m_lanes a_m_lengths a_m_sheetCells H.size m_toldOnce m_taped m_fault m_broken m_brokenAt m_spot m_here m_token m_value m_silent x3.2.1 (x3.2.2.1 + (if o16 = o9 then (0 : Int32) else (1 : Int32))) (x3.2.2.2.1 ||| (if o10 = (-4 : Int32) then (0 : Int32) else (1 : Int32) <<< (o10 &&& 31))) m_seenMany m_torn o15 (104 : Int32) o21 hv) (cwV 1 hts gX6_yearsGo_X6_leanOn rfl rfl rfl (by decide +kernel) ⟨Nat.le_of_ble_eq_true rfl, Nat.le_of_ble_eq_true rfl⟩) (z_preV (wc := [(a_m, .inr (6, [.ref a_m_state, .ref a_m_readPage, .int m_toldOnce, .ref a_m_tape, .int m_taped, .int m_fault, .int m_broken, .int m_brokenAt, .int m_spot, .int m_here, .int m_token, .int m_value, .ref a_m_cuts, .ref a_m_letters, .int m_silent, .int x3.2.1, .int (x3.2.2.1 + (if o16 = o9 then (0 : Int32) else (1 : Int32))), .int (x3.2.2.2.1 ||| (if o10 = (-4 : Int32) then (0 : Int32) else (1 : Int32) <<< (o10 &&& 31))), .ref a_m_seen, .int m_seenMany, .ref a_m_pointBy, .ref a_m_isKept, .ref a_m_lanes, .ref a_m_lengths, .ref a_m_sheetCells, .int m_torn])), (a_m_state, .inl (k 0, 156, .inl o15))]) [0, 1] 0 6 hK hE hA hP hD hS (by decide) rfl rfl rfl) rfl rfl hl.1 rfl (lv_room (Nat.le_of_ble_eq_true rfl)) dX6_yearsGo_109 ⟨Nat.le_refl _, Nat.le_refl _⟩) hA hP hD hS rfl rfl rfl rfl (fun H locs hP hD hS => ?_)
        refine lv_aload_n hx hb dX6_yearsGo_112 rfl (lv_at hl 0 rfl) ?_
        refine va_get (D := G) (ci := 6) (v := .int x3.2.1) (C := RX6) (T := TX6) (N := 26) hx hb hts iw_X6_yearsGo_X6 hown hK hP 0 rfl rfl 15 (by decide) (hts (.fieldLink RX6 191 "SpireLeanModel" "greatest" "I") (List.mem_of_getElem? (i := 1) rfl)) (fun _ h9 => h9) rfl dX6_yearsGo_113 ?_
        refine lv_icmp_le (tgt := 128) hx hb dX6_yearsGo_116 (by decide) (fun c23 => ?_) (fun c23 => ?_)
        · have h := zit c23 h
          refine lv_aload_n hx hb dX6_yearsGo_128 rfl (lv_at hl 0 rfl) ?_
          refine va_get (D := G) (ci := 6) (v := .int x3.2.1) (C := RX6) (T := TX6) (N := 26) hx hb hts iw_X6_yearsGo_X6 hown hK hP 0 rfl rfl 15 (by decide) (hts (.fieldLink RX6 191 "SpireLeanModel" "greatest" "I") (List.mem_of_getElem? (i := 1) rfl)) (fun _ h9 => h9) rfl dX6_yearsGo_129 ?_
          refine va_put (D := G) (ci := 6) (v := .int x3.2.1) (ty := .int) (C := RX6) (T := TX6) (N := 26) hx hb hts iw_X6_yearsGo_X6 tyX6 tyX6_ok nmX6 hown hK hP hD hS 0 rfl rfl 15 (by decide) (hts (.fieldLink RX6 191 "SpireLeanModel" "greatest" "I") (List.mem_of_getElem? (i := 1) rfl)) (fun _ h9 => h9) rfl (tyX6_ok 15 (by decide)) rfl rfl (Nat.le_of_ble_eq_true rfl) dX6_yearsGo_132 (fun H locs hP hD hS => ?_)
          have hP : va_P G vwCl [(a_m, .inr (6, [.ref a_m_state, .ref a_m_readPage, .int m_toldOnce, .ref a_m_tape, .int m_taped, .int m_fault, .int m_broken, .int m_brokenAt, .int m_spot, .int m_here, .int m_token, .int m_value, .ref a_m_cuts, .ref a_m_letters, .int m_silent, .int x3.2.1, .int (x3.2.2.1 + (if o16 = o9 then (0 : Int32) else (1 : Int32))), .int (x3.2.2.2.1 ||| (if o10 = (-4 : Int32) then (0 : Int32) else (1 : Int32) <<< (o10 &&& 31))), .ref a_m_seen, .int m_seenMany, .ref a_m_pointBy, .ref a_m_isKept, .ref a_m_lanes, .ref a_m_lengths, .ref a_m_sheetCells, .int m_torn])), (a_m_state, .inl (k 0, 156, .inl o15))] H := hP
          have hD : va_D A [(a_m, .inr (6, [.ref a_m_state, .ref a_m_readPage, .int m_toldOnce, .ref a_m_tape, .int m_taped, .int m_fault, .int m_broken, .int m_brokenAt, .int m_spot, .int m_here, .int m_token, .int m_value, .ref a_m_cuts, .ref a_m_letters, .int m_silent, .int x3.2.1, .int (x3.2.2.1 + (if o16 = o9 then (0 : Int32) else (1 : Int32))), .int (x3.2.2.2.1 ||| (if o10 = (-4 : Int32) then (0 : Int32) else (1 : Int32) <<< (o10 &&& 31))), .ref a_m_seen, .int m_seenMany, .ref a_m_pointBy, .ref a_m_isKept, .ref a_m_lanes, .ref a_m_lengths, .ref a_m_sheetCells, .int m_torn])), (a_m_state, .inl (k 0, 156, .inl o15))] := hD
          refine lv_iinc (v := x3.1 + (1 : Int32)) (lv' := [(3, .int (x3.1 + (1 : Int32))), (0, .ref a_m), (2, .int u2)]) hx hb dX6_yearsGo_135 hl (k := 2) rfl rfl (by decide) rfl (fun ls hl => ?_)
          refine lv_goto (tgt := 29) hx hb dX6_yearsGo_138 (by decide) ?_
          exact hC4 _ (zs h) H locs ls hP hD hS (lv_sub hl [1, 2, 0] rfl)
        · have h := zif c23 h
          refine lv_aload_n hx hb dX6_yearsGo_119 rfl (lv_at hl 0 rfl) ?_
          refine lv_bipush (v := 104) hx hb dX6_yearsGo_120 (by decide) ?_
          obtain ⟨o22, hv, h⟩ := zb h
          refine z_goi (w2 := [(a_m, .inr (6, [.ref a_m_state, .ref a_m_readPage, .int m_toldOnce, .ref a_m_tape, .int m_taped, .int m_fault, .int m_broken, .int m_brokenAt, .int m_spot, .int m_here, .int m_token, .int m_value, .ref a_m_cuts, .ref a_m_letters, .int m_silent, .int x3.2.1, .int (x3.2.2.1 + (if o16 = o9 then (0 : Int32) else (1 : Int32))), .int (x3.2.2.2.1 ||| (if o10 = (-4 : Int32) then (0 : Int32) else (1 : Int32) <<< (o10 &&& 31))), .ref a_m_seen, .int m_seenMany, .ref a_m_pointBy, .ref a_m_isKept, .ref a_m_lanes, .ref a_m_lengths, .ref a_m_sheetCells, .int m_torn])), (a_m_state, .inl (k 0, 156, .inl o15))]) [0, 1] (va_runV (As := [.int (104 : Int32)]) (rest := [.ref a_m]) ⟨hx, hb, hml, hown, hts⟩ (c_X6_leanOn l G k tL tM sK sV a_m a_m_state a_m_readPage a_m_tape a_m_cuts a_m_letters a_m_seen a_m_pointBy a_m_isKept a_m_lanes a_m_lengths a_m_sheetCells H.size m_toldOnce m_taped m_fault m_broken m_brokenAt m_spot m_here m_token m_value m_silent x3.2.1 (x3.2.2.1 + (if o16 = o9 then (0 : Int32) else (1 : Int32))) (x3.2.2.2.1 ||| (if o10 = (-4 : Int32) then (0 : Int32) else (1 : Int32) <<< (o10 &&& 31))) m_seenMany m_torn o15 (104 : Int32) o22 hv) (cwV 1 hts gX6_yearsGo_X6_leanOn rfl rfl rfl (by decide +kernel) ⟨Nat.le_of_ble_eq_true rfl, Nat.le_of_ble_eq_true rfl⟩) (z_preV (wc := [(a_m, .inr (6, [.ref a_m_state, .ref a_m_readPage, .int m_toldOnce, .ref a_m_tape, .int m_taped, .int m_fault, .int m_broken, .int m_brokenAt, .int m_spot, .int m_here, .int m_token, .int m_value, .ref a_m_cuts, .ref a_m_letters, .int m_silent, .int x3.2.1, .int (x3.2.2.1 + (if o16 = o9 then (0 : Int32) else (1 : Int32))), .int (x3.2.2.2.1 ||| (if o10 = (-4 : Int32) then (0 : Int32) else (1 : Int32) <<< (o10 &&& 31))), .ref a_m_seen, .int m_seenMany, .ref a_m_pointBy, .ref a_m_isKept, .ref a_m_lanes, .ref a_m_lengths, .ref a_m_sheetCells, .int m_torn])), (a_m_state, .inl (k 0, 156, .inl o15))]) [0, 1] 0 6 hK hE hA hP hD hS (by decide) rfl rfl rfl) rfl rfl hl.1 rfl (lv_room (Nat.le_of_ble_eq_true rfl)) dX6_yearsGo_122 ⟨Nat.le_refl _, Nat.le_refl _⟩) hA hP hD hS rfl rfl rfl rfl (fun H locs hP hD hS => ?_)
          refine lv_goto (tgt := 132) hx hb dX6_yearsGo_125 (by decide) ?_
          refine va_put (D := G) (ci := 6) (v := .int o22) (ty := .int) (C := RX6) (T := TX6) (N := 26) hx hb hts iw_X6_yearsGo_X6 tyX6 tyX6_ok nmX6 hown hK hP hD hS 0 rfl rfl 15 (by decide) (hts (.fieldLink RX6 191 "SpireLeanModel" "greatest" "I") (List.mem_of_getElem? (i := 1) rfl)) (fun _ h9 => h9) rfl (tyX6_ok 15 (by decide)) rfl rfl (Nat.le_of_ble_eq_true rfl) dX6_yearsGo_132 (fun H locs hP hD hS => ?_)
          have hP : va_P G vwCl [(a_m, .inr (6, [.ref a_m_state, .ref a_m_readPage, .int m_toldOnce, .ref a_m_tape, .int m_taped, .int m_fault, .int m_broken, .int m_brokenAt, .int m_spot, .int m_here, .int m_token, .int m_value, .ref a_m_cuts, .ref a_m_letters, .int m_silent, .int o22, .int (x3.2.2.1 + (if o16 = o9 then (0 : Int32) else (1 : Int32))), .int (x3.2.2.2.1 ||| (if o10 = (-4 : Int32) then (0 : Int32) else (1 : Int32) <<< (o10 &&& 31))), .ref a_m_seen, .int m_seenMany, .ref a_m_pointBy, .ref a_m_isKept, .ref a_m_lanes, .ref a_m_lengths, .ref a_m_sheetCells, .int m_torn])), (a_m_state, .inl (k 0, 156, .inl o15))] H := hP
          have hD : va_D A [(a_m, .inr (6, [.ref a_m_state, .ref a_m_readPage, .int m_toldOnce, .ref a_m_tape, .int m_taped, .int m_fault, .int m_broken, .int m_brokenAt, .int m_spot, .int m_here, .int m_token, .int m_value, .ref a_m_cuts, .ref a_m_letters, .int m_silent, .int o22, .int (x3.2.2.1 + (if o16 = o9 then (0 : Int32) else (1 : Int32))), .int (x3.2.2.2.1 ||| (if o10 = (-4 : Int32) then (0 : Int32) else (1 : Int32) <<< (o10 &&& 31))), .ref a_m_seen, .int m_seenMany, .ref a_m_pointBy, .ref a_m_isKept, .ref a_m_lanes, .ref a_m_lengths, .ref a_m_sheetCells, .int m_torn])), (a_m_state, .inl (k 0, 156, .inl o15))] := hD
          refine lv_iinc (v := x3.1 + (1 : Int32)) (lv' := [(3, .int (x3.1 + (1 : Int32))), (0, .ref a_m), (2, .int u2)]) hx hb dX6_yearsGo_135 hl (k := 2) rfl rfl (by decide) rfl (fun ls hl => ?_)
          refine lv_goto (tgt := 29) hx hb dX6_yearsGo_138 (by decide) ?_
          exact hC4 _ (zs h) H locs ls hP hD hS (lv_sub hl [1, 2, 0] rfl)
      refine lv_icmp_ne (tgt := 100) hx hb dX6_yearsGo_93 (by decide) (fun c20 => ?_) (fun c20 => ?_)
      · refine lv_iconst (v := 1) hx hb dX6_yearsGo_100 (by decide) ?_
        exact hJ17 _ (if_neg c20).symm H locs ls hP hD hS (lv_sub hl [0, 1, 2] rfl)
      · refine lv_iconst (v := 0) hx hb dX6_yearsGo_96 (by decide) ?_
        refine lv_goto (tgt := 101) hx hb dX6_yearsGo_97 (by decide) ?_
        exact hJ17 _ (if_pos c20).symm H locs ls hP hD hS (lv_sub hl [0, 1, 2] rfl)
    refine lv_icmp_ne (tgt := 66) hx hb dX6_yearsGo_59 (by decide) (fun c14 => ?_) (fun c14 => ?_)
    · refine lv_iconst (v := 1) hx hb dX6_yearsGo_66 (by decide) ?_
      refine lv_iload hx hb dX6_yearsGo_67 (lv_at hl 0 rfl) ?_
      refine lv_ishl hx hb dX6_yearsGo_69 ?_
      exact hJ11 _ (if_neg c14).symm H locs ls hP hD hS (lv_sub hl [2, 3, 4, 1] rfl)
    · refine lv_iconst (v := 0) hx hb dX6_yearsGo_62 (by decide) ?_
      refine lv_goto (tgt := 70) hx hb dX6_yearsGo_63 (by decide) ?_
      exact hJ11 _ (if_pos c14).symm H locs ls hP hD hS (lv_sub hl [2, 3, 4, 1] rfl)
theorem iw_X6_runs_X6 : ∀ w ∈ wsX60, w ∈ wsX6_runs := fun _ h => List.mem_cons_of_mem _ (List.mem_append_right _ h)
set_option maxHeartbeats 4000000 in
set_option maxRecDepth 100000 in
theorem c_X6_runs (l : Launch) (G : va_G) (k : Nat → ClassId) (tL tM : Nat) (sK sV : Nat → Nat) (a_m : Nat) (a_m_state : Nat) (a_m_readPage : Nat) (a_m_tape : Nat) (a_m_cuts : Nat) (a_m_letters : Nat) (a_m_seen : Nat) (a_m_pointBy : Nat) (a_m_isKept : Nat) (a_m_lanes : Nat) (a_m_lengths : Nat) (a_m_sheetCells : Nat) (sz : Nat) (m_toldOnce : Int32) (m_taped : Int32) (m_fault : Int32) (m_broken : Int32) (m_brokenAt : Int32) (m_spot : Int32) (m_here : Int32) (m_token : Int32) (m_value : Int32) (m_silent : Int32) (m_greatest : Int32) (m_moves : Int32) (m_holders : Int32) (m_seenMany : Int32) (m_torn : Int32) (m_state : Nat → Int32) (u1 : Int32) (u2 : Int32) (out : Int32 × Int32 × Int32 × Int32 × (Nat → Int32)) (h : p_X6_runs u1 u2 m_silent m_greatest m_moves m_holders m_state = some out) : zMi l yX6_runs wsX6_runs 7 156 G k tL tM sK sV [.ref a_m, .int u1, .int u2] [(a_m, .inr (6, [.ref a_m_state, .ref a_m_readPage, .int m_toldOnce, .ref a_m_tape, .int m_taped, .int m_fault, .int m_broken, .int m_brokenAt, .int m_spot, .int m_here, .int m_token, .int m_value, .ref a_m_cuts, .ref a_m_letters, .int m_silent, .int m_greatest, .int m_moves, .int m_holders, .ref a_m_seen, .int m_seenMany, .ref a_m_pointBy, .ref a_m_isKept, .ref a_m_lanes, .ref a_m_lengths, .ref a_m_sheetCells, .int m_torn])), (a_m_state, .inl (k 0, 156, .inl m_state))] [(a_m, .inr (6, [.ref a_m_state, .ref a_m_readPage, .int m_toldOnce, .ref a_m_tape, .int m_taped, .int m_fault, .int m_broken, .int m_brokenAt, .int m_spot, .int m_here, .int m_token, .int m_value, .ref a_m_cuts, .ref a_m_letters, .int m_silent, .int out.2.1, .int out.2.2.1, .int out.2.2.2.1, .ref a_m_seen, .int m_seenMany, .ref a_m_pointBy, .ref a_m_isKept, .ref a_m_lanes, .ref a_m_lengths, .ref a_m_sheetCells, .int m_torn])), (a_m_state, .inl (k 0, 156, .inl out.2.2.2.2))] out.1 sz := by
  refine z_meti (cc := cX6_runs) (maxL := 3) (by decide) rfl (Nat.le_of_ble_eq_true rfl) ?_
  intro p e s m below meth c A Q H locs ls hx hb hml hts hown hA hK hE hret hP hD hS hl
  have hown : s.vm.findClass RX6 = some m.cls := hown
  have hl : lv_has ls 3 [(0, .ref a_m), (1, .int u1), (2, .int u2)] := hl
  unfold p_X6_runs at h
  refine lv_iload_n hx hb dX6_runs_0 rfl (lv_at hl 1 rfl) ?_
  refine lv_i2l (v := u1.toInt64) hx hb dX6_runs_1 rfl ?_
  refine lv_lconst (v := 0) hx hb dX6_runs_2 (by decide) ?_
  refine lv_ldc2 hx hb hown (hts (.constantLong RX6 163 (60)) (List.mem_of_getElem? (i := 1) rfl)) dX6_runs_3 ?_
  obtain ⟨o1, hv, h⟩ := zb h
  refine z_goi (w2 := [(a_m, .inr (6, [.ref a_m_state, .ref a_m_readPage, .int m_toldOnce, .ref a_m_tape, .int m_taped, .int m_fault, .int m_broken, .int m_brokenAt, .int m_spot, .int m_here, .int m_token, .int m_value, .ref a_m_cuts, .ref a_m_letters, .int m_silent, .int m_greatest, .int m_moves, .int m_holders, .ref a_m_seen, .int m_seenMany, .ref a_m_pointBy, .ref a_m_isKept, .ref a_m_lanes, .ref a_m_lengths, .ref a_m_sheetCells, .int m_torn])), (a_m_state, .inl (k 0, 156, .inl m_state))]) [] (va_runS (As := [.long u1.toInt64, .long (0 : Int64), .long (60 : Int64)]) (rest := []) ⟨hx, hb, hml, hown, hts⟩ (c_X6_in l G k tL tM sK sV H.size u1.toInt64 (0 : Int64) (60 : Int64) o1 hv) (va_cwS 3 hts gX6_runs_X6_in rfl rfl rfl (by decide +kernel) ⟨Nat.le_of_ble_eq_true rfl, Nat.le_of_ble_eq_true rfl⟩) (z_preS (wc := []) [] hK hE hA hP hD hS (by decide) rfl) rfl rfl hl.1 rfl (lv_room (Nat.le_of_ble_eq_true rfl)) dX6_runs_6 ⟨Nat.le_refl _, Nat.le_refl _⟩) hA hP hD hS rfl rfl rfl rfl (fun H locs hP hD hS => ?_)
  refine lv_if_eq (tgt := 24) hx hb dX6_runs_9 (by decide) (fun c11 => ?_) (fun c11 => ?_)
  · have h := zit c11 h
    refine lv_iconst (v := (-1)) hx hb dX6_runs_24 (by decide) ?_
    have hr := (zs h)
    subst hr
    exact hret H locs ls 25 hP hS dX6_runs_25
  · have h := zif c11 h
    refine lv_iload_n hx hb dX6_runs_12 rfl (lv_at hl 2 rfl) ?_
    refine lv_i2l (v := u2.toInt64) hx hb dX6_runs_13 rfl ?_
    refine lv_lconst (v := 0) hx hb dX6_runs_14 (by decide) ?_
    refine lv_ldc2 hx hb hown (hts (.constantLong RX6 200 (4)) (List.mem_of_getElem? (i := 2) rfl)) dX6_runs_15 ?_
    obtain ⟨o2, hv, h⟩ := zb h
    refine z_goi (w2 := [(a_m, .inr (6, [.ref a_m_state, .ref a_m_readPage, .int m_toldOnce, .ref a_m_tape, .int m_taped, .int m_fault, .int m_broken, .int m_brokenAt, .int m_spot, .int m_here, .int m_token, .int m_value, .ref a_m_cuts, .ref a_m_letters, .int m_silent, .int m_greatest, .int m_moves, .int m_holders, .ref a_m_seen, .int m_seenMany, .ref a_m_pointBy, .ref a_m_isKept, .ref a_m_lanes, .ref a_m_lengths, .ref a_m_sheetCells, .int m_torn])), (a_m_state, .inl (k 0, 156, .inl m_state))]) [] (va_runS (As := [.long u2.toInt64, .long (0 : Int64), .long (4 : Int64)]) (rest := []) ⟨hx, hb, hml, hown, hts⟩ (c_X6_in l G k tL tM sK sV H.size u2.toInt64 (0 : Int64) (4 : Int64) o2 hv) (va_cwS 3 hts gX6_runs_X6_in rfl rfl rfl (by decide +kernel) ⟨Nat.le_of_ble_eq_true rfl, Nat.le_of_ble_eq_true rfl⟩) (z_preS (wc := []) [] hK hE hA hP hD hS (by decide) rfl) rfl rfl hl.1 rfl (lv_room (Nat.le_of_ble_eq_true rfl)) dX6_runs_18 ⟨Nat.le_refl _, Nat.le_refl _⟩) hA hP hD hS rfl rfl rfl rfl (fun H locs hP hD hS => ?_)
    refine lv_if_ne (tgt := 26) hx hb dX6_runs_21 (by decide) (fun c10 => ?_) (fun c10 => ?_)
    · have h := zif c10 h
      refine lv_aload_n hx hb dX6_runs_26 rfl (lv_at hl 0 rfl) ?_
      refine lv_iconst (v := 0) hx hb dX6_runs_27 (by decide) ?_
      refine lv_iload_n hx hb dX6_runs_28 rfl (lv_at hl 1 rfl) ?_
      obtain ⟨o3, hv, h⟩ := zb h
      refine z_gov (w2 := [(a_m, .inr (6, [.ref a_m_state, .ref a_m_readPage, .int m_toldOnce, .ref a_m_tape, .int m_taped, .int m_fault, .int m_broken, .int m_brokenAt, .int m_spot, .int m_here, .int m_token, .int m_value, .ref a_m_cuts, .ref a_m_letters, .int m_silent, .int o3.1, .int o3.2.1, .int o3.2.2.1, .ref a_m_seen, .int m_seenMany, .ref a_m_pointBy, .ref a_m_isKept, .ref a_m_lanes, .ref a_m_lengths, .ref a_m_sheetCells, .int m_torn])), (a_m_state, .inl (k 0, 156, .inl o3.2.2.2))]) [0, 1] (va_runV (As := [.int (0 : Int32), .int u1]) (rest := []) ⟨hx, hb, hml, hown, hts⟩ (c_X6_yearsGo l G k tL tM sK sV a_m a_m_state a_m_readPage a_m_tape a_m_cuts a_m_letters a_m_seen a_m_pointBy a_m_isKept a_m_lanes a_m_lengths a_m_sheetCells H.size m_toldOnce m_taped m_fault m_broken m_brokenAt m_spot m_here m_token m_value m_silent m_greatest m_moves m_holders m_seenMany m_torn m_state (0 : Int32) u1 o3 hv) (cwV 2 hts gX6_runs_X6_yearsGo rfl rfl rfl (by decide +kernel) ⟨Nat.le_of_ble_eq_true rfl, Nat.le_of_ble_eq_true rfl⟩) (z_preV (wc := [(a_m, .inr (6, [.ref a_m_state, .ref a_m_readPage, .int m_toldOnce, .ref a_m_tape, .int m_taped, .int m_fault, .int m_broken, .int m_brokenAt, .int m_spot, .int m_here, .int m_token, .int m_value, .ref a_m_cuts, .ref a_m_letters, .int m_silent, .int m_greatest, .int m_moves, .int m_holders, .ref a_m_seen, .int m_seenMany, .ref a_m_pointBy, .ref a_m_isKept, .ref a_m_lanes, .ref a_m_lengths, .ref a_m_sheetCells, .int m_torn])), (a_m_state, .inl (k 0, 156, .inl m_state))]) [0, 1] 0 6 hK hE hA hP hD hS (by decide) rfl rfl rfl) rfl rfl hl.1 rfl (lv_room (Nat.le_of_ble_eq_true rfl)) dX6_runs_29 ⟨Nat.le_refl _, Nat.le_refl _⟩) hA hP hD hS rfl rfl rfl rfl (fun H locs hP hD hS => ?_)
      refine lv_iload_n hx hb dX6_runs_32 rfl (lv_at hl 2 rfl) ?_
      refine lv_if_ne (tgt := 45) hx hb dX6_runs_33 (by decide) (fun c9 => ?_) (fun c9 => ?_)
      · have h := zif c9 h
        refine lv_iload_n hx hb dX6_runs_45 rfl (lv_at hl 2 rfl) ?_
        refine lv_iconst (v := 1) hx hb dX6_runs_46 (by decide) ?_
        refine lv_icmp_ne (tgt := 59) hx hb dX6_runs_47 (by decide) (fun c7 => ?_) (fun c7 => ?_)
        · have h := zif c7 h
          refine lv_iload_n hx hb dX6_runs_59 rfl (lv_at hl 2 rfl) ?_
          refine lv_iconst (v := 2) hx hb dX6_runs_60 (by decide) ?_
          refine lv_icmp_ne (tgt := 71) hx hb dX6_runs_61 (by decide) (fun c5 => ?_) (fun c5 => ?_)
          · have h := zif c5 h
            refine lv_iload_n hx hb dX6_runs_71 rfl (lv_at hl 2 rfl) ?_
            refine lv_iconst (v := 3) hx hb dX6_runs_72 (by decide) ?_
            refine lv_icmp_ne (tgt := 83) hx hb dX6_runs_73 (by decide) (fun c4 => ?_) (fun c4 => ?_)
            · have h := zif c4 h
              refine lv_aload_n hx hb dX6_runs_83 rfl (lv_at hl 0 rfl) ?_
              refine va_get (D := G) (ci := 6) (v := .int o3.2.2.1) (C := RX6) (T := TX6) (N := 26) hx hb hts iw_X6_runs_X6 hown hK hP 0 rfl rfl 17 (by decide) (hts (.fieldLink RX6 197 "SpireLeanModel" "holders" "I") (List.mem_of_getElem? (i := 5) rfl)) (fun _ h9 => h9) rfl dX6_runs_84 ?_
              have hr := (zs h)
              subst hr
              exact hret H locs ls 87 hP hS dX6_runs_87
            · have h := zit c4 h
              refine lv_aload_n hx hb dX6_runs_76 rfl (lv_at hl 0 rfl) ?_
              refine va_get (D := G) (ci := 6) (v := .int o3.2.1) (C := RX6) (T := TX6) (N := 26) hx hb hts iw_X6_runs_X6 hown hK hP 0 rfl rfl 16 (by decide) (hts (.fieldLink RX6 194 "SpireLeanModel" "moves" "I") (List.mem_of_getElem? (i := 4) rfl)) (fun _ h9 => h9) rfl dX6_runs_77 ?_
              refine lv_goto (tgt := 87) hx hb dX6_runs_80 (by decide) ?_
              have hr := (zs h)
              subst hr
              exact hret H locs ls 87 hP hS dX6_runs_87
          · have h := zit c5 h
            refine lv_aload_n hx hb dX6_runs_64 rfl (lv_at hl 0 rfl) ?_
            refine va_get (D := G) (ci := 6) (v := .int o3.1) (C := RX6) (T := TX6) (N := 26) hx hb hts iw_X6_runs_X6 hown hK hP 0 rfl rfl 15 (by decide) (hts (.fieldLink RX6 191 "SpireLeanModel" "greatest" "I") (List.mem_of_getElem? (i := 3) rfl)) (fun _ h9 => h9) rfl dX6_runs_65 ?_
            refine lv_goto (tgt := 87) hx hb dX6_runs_68 (by decide) ?_
            have hr := (zs h)
            subst hr
            exact hret H locs ls 87 hP hS dX6_runs_87
        · have h := zit c7 h
          refine lv_aload_n hx hb dX6_runs_50 rfl (lv_at hl 0 rfl) ?_
          refine lv_bipush (v := 104) hx hb dX6_runs_51 (by decide) ?_
          obtain ⟨o6, hv, h⟩ := zb h
          refine z_goi (w2 := [(a_m, .inr (6, [.ref a_m_state, .ref a_m_readPage, .int m_toldOnce, .ref a_m_tape, .int m_taped, .int m_fault, .int m_broken, .int m_brokenAt, .int m_spot, .int m_here, .int m_token, .int m_value, .ref a_m_cuts, .ref a_m_letters, .int m_silent, .int o3.1, .int o3.2.1, .int o3.2.2.1, .ref a_m_seen, .int m_seenMany, .ref a_m_pointBy, .ref a_m_isKept, .ref a_m_lanes, .ref a_m_lengths, .ref a_m_sheetCells, .int m_torn])), (a_m_state, .inl (k 0, 156, .inl o3.2.2.2))]) [0, 1] (va_runV (As := [.int (104 : Int32)]) (rest := []) ⟨hx, hb, hml, hown, hts⟩ (c_X6_leanOn l G k tL tM sK sV a_m a_m_state a_m_readPage a_m_tape a_m_cuts a_m_letters a_m_seen a_m_pointBy a_m_isKept a_m_lanes a_m_lengths a_m_sheetCells H.size m_toldOnce m_taped m_fault m_broken m_brokenAt m_spot m_here m_token m_value m_silent o3.1 o3.2.1 o3.2.2.1 m_seenMany m_torn o3.2.2.2 (104 : Int32) o6 hv) (cwV 1 hts gX6_runs_X6_leanOn rfl rfl rfl (by decide +kernel) ⟨Nat.le_of_ble_eq_true rfl, Nat.le_of_ble_eq_true rfl⟩) (z_preV (wc := [(a_m, .inr (6, [.ref a_m_state, .ref a_m_readPage, .int m_toldOnce, .ref a_m_tape, .int m_taped, .int m_fault, .int m_broken, .int m_brokenAt, .int m_spot, .int m_here, .int m_token, .int m_value, .ref a_m_cuts, .ref a_m_letters, .int m_silent, .int o3.1, .int o3.2.1, .int o3.2.2.1, .ref a_m_seen, .int m_seenMany, .ref a_m_pointBy, .ref a_m_isKept, .ref a_m_lanes, .ref a_m_lengths, .ref a_m_sheetCells, .int m_torn])), (a_m_state, .inl (k 0, 156, .inl o3.2.2.2))]) [0, 1] 0 6 hK hE hA hP hD hS (by decide) rfl rfl rfl) rfl rfl hl.1 rfl (lv_room (Nat.le_of_ble_eq_true rfl)) dX6_runs_53 ⟨Nat.le_refl _, Nat.le_refl _⟩) hA hP hD hS rfl rfl rfl rfl (fun H locs hP hD hS => ?_)
          refine lv_goto (tgt := 87) hx hb dX6_runs_56 (by decide) ?_
          have hr := (zs h)
          subst hr
          exact hret H locs ls 87 hP hS dX6_runs_87
      · have h := zit c9 h
        refine lv_aload_n hx hb dX6_runs_36 rfl (lv_at hl 0 rfl) ?_
        refine lv_bipush (v := 104) hx hb dX6_runs_37 (by decide) ?_
        obtain ⟨o8, hv, h⟩ := zb h
        refine z_goi (w2 := [(a_m, .inr (6, [.ref a_m_state, .ref a_m_readPage, .int m_toldOnce, .ref a_m_tape, .int m_taped, .int m_fault, .int m_broken, .int m_brokenAt, .int m_spot, .int m_here, .int m_token, .int m_value, .ref a_m_cuts, .ref a_m_letters, .int m_silent, .int o3.1, .int o3.2.1, .int o3.2.2.1, .ref a_m_seen, .int m_seenMany, .ref a_m_pointBy, .ref a_m_isKept, .ref a_m_lanes, .ref a_m_lengths, .ref a_m_sheetCells, .int m_torn])), (a_m_state, .inl (k 0, 156, .inl o3.2.2.2))]) [0, 1] (va_runV (As := [.int (104 : Int32)]) (rest := []) ⟨hx, hb, hml, hown, hts⟩ (c_X6_pointOn l G k tL tM sK sV a_m a_m_state a_m_readPage a_m_tape a_m_cuts a_m_letters a_m_seen a_m_pointBy a_m_isKept a_m_lanes a_m_lengths a_m_sheetCells H.size m_toldOnce m_taped m_fault m_broken m_brokenAt m_spot m_here m_token m_value m_silent o3.1 o3.2.1 o3.2.2.1 m_seenMany m_torn o3.2.2.2 (104 : Int32) o8 hv) (cwV 1 hts gX6_runs_X6_pointOn rfl rfl rfl (by decide +kernel) ⟨Nat.le_of_ble_eq_true rfl, Nat.le_of_ble_eq_true rfl⟩) (z_preV (wc := [(a_m, .inr (6, [.ref a_m_state, .ref a_m_readPage, .int m_toldOnce, .ref a_m_tape, .int m_taped, .int m_fault, .int m_broken, .int m_brokenAt, .int m_spot, .int m_here, .int m_token, .int m_value, .ref a_m_cuts, .ref a_m_letters, .int m_silent, .int o3.1, .int o3.2.1, .int o3.2.2.1, .ref a_m_seen, .int m_seenMany, .ref a_m_pointBy, .ref a_m_isKept, .ref a_m_lanes, .ref a_m_lengths, .ref a_m_sheetCells, .int m_torn])), (a_m_state, .inl (k 0, 156, .inl o3.2.2.2))]) [0, 1] 0 6 hK hE hA hP hD hS (by decide) rfl rfl rfl) rfl rfl hl.1 rfl (lv_room (Nat.le_of_ble_eq_true rfl)) dX6_runs_39 ⟨Nat.le_refl _, Nat.le_refl _⟩) hA hP hD hS rfl rfl rfl rfl (fun H locs hP hD hS => ?_)
        refine lv_goto (tgt := 87) hx hb dX6_runs_42 (by decide) ?_
        have hr := (zs h)
        subst hr
        exact hret H locs ls 87 hP hS dX6_runs_87
    · have h := zit c10 h
      refine lv_iconst (v := (-1)) hx hb dX6_runs_24 (by decide) ?_
      have hr := (zs h)
      subst hr
      exact hret H locs ls 25 hP hS dX6_runs_25
set_option maxHeartbeats 4000000 in
set_option maxRecDepth 100000 in
theorem c_X6_falls (l : Launch) (G : va_G) (k : Nat → ClassId) (tL tM : Nat) (sK sV : Nat → Nat) (a_m : Nat) (a_m_state : Nat) (a_m_readPage : Nat) (a_m_tape : Nat) (a_m_cuts : Nat) (a_m_letters : Nat) (a_m_seen : Nat) (a_m_pointBy : Nat) (a_m_isKept : Nat) (a_m_lanes : Nat) (a_m_lengths : Nat) (a_m_sheetCells : Nat) (sz : Nat) (m_toldOnce : Int32) (m_taped : Int32) (m_fault : Int32) (m_broken : Int32) (m_brokenAt : Int32) (m_spot : Int32) (m_here : Int32) (m_token : Int32) (m_value : Int32) (m_silent : Int32) (m_greatest : Int32) (m_moves : Int32) (m_holders : Int32) (m_seenMany : Int32) (m_torn : Int32) (m_state : Nat → Int32) (out : Int32 × (Nat → Int32)) (h : p_X6_falls m_silent m_state = some out) : zMi l yX6_falls wsX6_falls 6 131 G k tL tM sK sV [.ref a_m] [(a_m, .inr (6, [.ref a_m_state, .ref a_m_readPage, .int m_toldOnce, .ref a_m_tape, .int m_taped, .int m_fault, .int m_broken, .int m_brokenAt, .int m_spot, .int m_here, .int m_token, .int m_value, .ref a_m_cuts, .ref a_m_letters, .int m_silent, .int m_greatest, .int m_moves, .int m_holders, .ref a_m_seen, .int m_seenMany, .ref a_m_pointBy, .ref a_m_isKept, .ref a_m_lanes, .ref a_m_lengths, .ref a_m_sheetCells, .int m_torn])), (a_m_state, .inl (k 0, 156, .inl m_state))] [(a_m, .inr (6, [.ref a_m_state, .ref a_m_readPage, .int m_toldOnce, .ref a_m_tape, .int m_taped, .int m_fault, .int m_broken, .int m_brokenAt, .int m_spot, .int m_here, .int m_token, .int m_value, .ref a_m_cuts, .ref a_m_letters, .int m_silent, .int m_greatest, .int m_moves, .int m_holders, .ref a_m_seen, .int m_seenMany, .ref a_m_pointBy, .ref a_m_isKept, .ref a_m_lanes, .ref a_m_lengths, .ref a_m_sheetCells, .int m_torn])), (a_m_state, .inl (k 0, 156, .inl out.2))] out.1 sz := by
  refine z_meti (cc := cX6_falls) (maxL := 2) (by decide) rfl (Nat.le_of_ble_eq_true rfl) ?_
  intro p e s m below meth c A Q H locs ls hx hb hml hts hown hA hK hE hret hP hD hS hl
  have hown : s.vm.findClass RX6 = some m.cls := hown
  have hl : lv_has ls 2 [(0, .ref a_m)] := hl
  unfold p_X6_falls at h
  refine lv_aload_n hx hb dX6_falls_0 rfl (lv_at hl 0 rfl) ?_
  refine lv_iconst (v := 0) hx hb dX6_falls_1 (by decide) ?_
  refine lv_bipush (v := 104) hx hb dX6_falls_2 (by decide) ?_
  obtain ⟨o1, hv, h⟩ := zb h
  refine z_gov (w2 := [(a_m, .inr (6, [.ref a_m_state, .ref a_m_readPage, .int m_toldOnce, .ref a_m_tape, .int m_taped, .int m_fault, .int m_broken, .int m_brokenAt, .int m_spot, .int m_here, .int m_token, .int m_value, .ref a_m_cuts, .ref a_m_letters, .int m_silent, .int m_greatest, .int m_moves, .int m_holders, .ref a_m_seen, .int m_seenMany, .ref a_m_pointBy, .ref a_m_isKept, .ref a_m_lanes, .ref a_m_lengths, .ref a_m_sheetCells, .int m_torn])), (a_m_state, .inl (k 0, 156, .inl o1))]) [0, 1] (va_runV (As := [.int (0 : Int32), .int (104 : Int32)]) (rest := []) ⟨hx, hb, hml, hown, hts⟩ (c_X6_copies l G k tL tM sK sV a_m a_m_state a_m_readPage a_m_tape a_m_cuts a_m_letters a_m_seen a_m_pointBy a_m_isKept a_m_lanes a_m_lengths a_m_sheetCells H.size m_toldOnce m_taped m_fault m_broken m_brokenAt m_spot m_here m_token m_value m_silent m_greatest m_moves m_holders m_seenMany m_torn m_state (0 : Int32) (104 : Int32) o1 hv) (cwV 2 hts gX6_falls_X6_copies rfl rfl rfl (by decide +kernel) ⟨Nat.le_of_ble_eq_true rfl, Nat.le_of_ble_eq_true rfl⟩) (z_preV (wc := [(a_m, .inr (6, [.ref a_m_state, .ref a_m_readPage, .int m_toldOnce, .ref a_m_tape, .int m_taped, .int m_fault, .int m_broken, .int m_brokenAt, .int m_spot, .int m_here, .int m_token, .int m_value, .ref a_m_cuts, .ref a_m_letters, .int m_silent, .int m_greatest, .int m_moves, .int m_holders, .ref a_m_seen, .int m_seenMany, .ref a_m_pointBy, .ref a_m_isKept, .ref a_m_lanes, .ref a_m_lengths, .ref a_m_sheetCells, .int m_torn])), (a_m_state, .inl (k 0, 156, .inl m_state))]) [0, 1] 0 6 hK hE hA hP hD hS (by decide) rfl rfl rfl) rfl rfl hl.1 rfl (lv_room (Nat.le_of_ble_eq_true rfl)) dX6_falls_4 ⟨Nat.le_refl _, Nat.le_refl _⟩) hA hP hD hS rfl rfl rfl rfl (fun H locs hP hD hS => ?_)
  refine lv_iconst (v := 0) hx hb dX6_falls_7 (by decide) ?_
  refine lv_istore_n (lv' := [(1, .int (0 : Int32)), (0, .ref a_m)]) hx hb dX6_falls_8 rfl hl (by decide) rfl (fun ls hl => ?_)
  obtain ⟨e7, hv, h⟩ := zb h
  have hJ5 : ∀ (x : Int32 × (Nat → Int32)), .inl x = e7 → x = out := fun x hz => (zs (zpeel_0_2 hz h))
  have hJ6 : ∀ (v8 : (Nat → Int32)), .inr v8 = e7 → zW p l e (zR 6 131) s m ([.ref a_m] : List Value).toArray below meth c Q 2 A G [(a_m, .inr (6, [.ref a_m_state, .ref a_m_readPage, .int m_toldOnce, .ref a_m_tape, .int m_taped, .int m_fault, .int m_broken, .int m_brokenAt, .int m_spot, .int m_here, .int m_token, .int m_value, .ref a_m_cuts, .ref a_m_letters, .int m_silent, .int m_greatest, .int m_moves, .int m_holders, .ref a_m_seen, .int m_seenMany, .ref a_m_pointBy, .ref a_m_isKept, .ref a_m_lanes, .ref a_m_lengths, .ref a_m_sheetCells, .int m_torn])), (a_m_state, .inl (k 0, 156, .inl v8))] [] 38 [] := by
    intro v8 hz
    have h := (zpeel_1_2 hz h)
    intro H locs ls hP hD hS hl
    refine lv_bipush (v := (-4)) hx hb dX6_falls_38 (by decide) ?_
    have hr := (zs h)
    subst hr
    exact hret H locs ls 40 hP hS dX6_falls_40
  refine z_lpW (Wh := fun (x2 : Int32 × (Nat → Int32)) => zW p l e (zR 6 131) s m ([.ref a_m] : List Value).toArray below meth c Q 2 A G [(a_m, .inr (6, [.ref a_m_state, .ref a_m_readPage, .int m_toldOnce, .ref a_m_tape, .int m_taped, .int m_fault, .int m_broken, .int m_brokenAt, .int m_spot, .int m_here, .int m_token, .int m_value, .ref a_m_cuts, .ref a_m_letters, .int m_silent, .int m_greatest, .int m_moves, .int m_holders, .ref a_m_seen, .int m_seenMany, .ref a_m_pointBy, .ref a_m_isKept, .ref a_m_lanes, .ref a_m_lengths, .ref a_m_sheetCells, .int m_torn])), (a_m_state, .inl (k 0, 156, .inl x2.2))] [(0, .ref a_m), (1, .int x2.1)] 9 []) ?_ 1000 _ hv H locs ls hP hD hS (lv_sub hl [1, 0] rfl)
  clear h
  intro x2 o h hC3 hX4 H locs ls hP hD hS hl
  unfold p_X6_falls_b9 at h
  refine lv_iload_n hx hb dX6_falls_9 rfl (lv_at hl 1 rfl) ?_
  refine lv_bipush (v := 60) hx hb dX6_falls_10 (by decide) ?_
  refine lv_icmp_gt (tgt := 38) hx hb dX6_falls_12 (by decide) (fun c12 => ?_) (fun c12 => ?_)
  · have h := zit c12 h
    exact hJ6 _ (hX4 _ (zs h)) H locs ls hP hD hS (lv_sub hl [] rfl)
  · have h := zif c12 h
    refine lv_aload_n hx hb dX6_falls_15 rfl (lv_at hl 0 rfl) ?_
    refine lv_bipush (v := 104) hx hb dX6_falls_16 (by decide) ?_
    obtain ⟨o9, hv, h⟩ := zb h
    refine z_goi (w2 := [(a_m, .inr (6, [.ref a_m_state, .ref a_m_readPage, .int m_toldOnce, .ref a_m_tape, .int m_taped, .int m_fault, .int m_broken, .int m_brokenAt, .int m_spot, .int m_here, .int m_token, .int m_value, .ref a_m_cuts, .ref a_m_letters, .int m_silent, .int m_greatest, .int m_moves, .int m_holders, .ref a_m_seen, .int m_seenMany, .ref a_m_pointBy, .ref a_m_isKept, .ref a_m_lanes, .ref a_m_lengths, .ref a_m_sheetCells, .int m_torn])), (a_m_state, .inl (k 0, 156, .inl x2.2))]) [0, 1] (va_runV (As := [.int (104 : Int32)]) (rest := []) ⟨hx, hb, hml, hown, hts⟩ (c_X6_isFallenOn l G k tL tM sK sV a_m a_m_state a_m_readPage a_m_tape a_m_cuts a_m_letters a_m_seen a_m_pointBy a_m_isKept a_m_lanes a_m_lengths a_m_sheetCells H.size m_toldOnce m_taped m_fault m_broken m_brokenAt m_spot m_here m_token m_value m_silent m_greatest m_moves m_holders m_seenMany m_torn x2.2 (104 : Int32) o9 hv) (cwV 1 hts gX6_falls_X6_isFallenOn rfl rfl rfl (by decide +kernel) ⟨Nat.le_of_ble_eq_true rfl, Nat.le_of_ble_eq_true rfl⟩) (z_preV (wc := [(a_m, .inr (6, [.ref a_m_state, .ref a_m_readPage, .int m_toldOnce, .ref a_m_tape, .int m_taped, .int m_fault, .int m_broken, .int m_brokenAt, .int m_spot, .int m_here, .int m_token, .int m_value, .ref a_m_cuts, .ref a_m_letters, .int m_silent, .int m_greatest, .int m_moves, .int m_holders, .ref a_m_seen, .int m_seenMany, .ref a_m_pointBy, .ref a_m_isKept, .ref a_m_lanes, .ref a_m_lengths, .ref a_m_sheetCells, .int m_torn])), (a_m_state, .inl (k 0, 156, .inl x2.2))]) [0, 1] 0 6 hK hE hA hP hD hS (by decide) rfl rfl rfl) rfl rfl hl.1 rfl (lv_room (Nat.le_of_ble_eq_true rfl)) dX6_falls_18 ⟨Nat.le_refl _, Nat.le_refl _⟩) hA hP hD hS rfl rfl rfl rfl (fun H locs hP hD hS => ?_)
    refine lv_if_eq (tgt := 26) hx hb dX6_falls_21 (by decide) (fun c11 => ?_) (fun c11 => ?_)
    · have h := zit c11 h
      refine lv_aload_n hx hb dX6_falls_26 rfl (lv_at hl 0 rfl) ?_
      refine lv_bipush (v := 104) hx hb dX6_falls_27 (by decide) ?_
      obtain ⟨o10, hv, h⟩ := zb h
      refine z_gov (w2 := [(a_m, .inr (6, [.ref a_m_state, .ref a_m_readPage, .int m_toldOnce, .ref a_m_tape, .int m_taped, .int m_fault, .int m_broken, .int m_brokenAt, .int m_spot, .int m_here, .int m_token, .int m_value, .ref a_m_cuts, .ref a_m_letters, .int m_silent, .int m_greatest, .int m_moves, .int m_holders, .ref a_m_seen, .int m_seenMany, .ref a_m_pointBy, .ref a_m_isKept, .ref a_m_lanes, .ref a_m_lengths, .ref a_m_sheetCells, .int m_torn])), (a_m_state, .inl (k 0, 156, .inl o10))]) [0, 1] (va_runV (As := [.int (104 : Int32)]) (rest := []) ⟨hx, hb, hml, hown, hts⟩ (c_X6_yearOn l G k tL tM sK sV a_m a_m_state a_m_readPage a_m_tape a_m_cuts a_m_letters a_m_seen a_m_pointBy a_m_isKept a_m_lanes a_m_lengths a_m_sheetCells H.size m_toldOnce m_taped m_fault m_broken m_brokenAt m_spot m_here m_token m_value m_silent m_greatest m_moves m_holders m_seenMany m_torn x2.2 (104 : Int32) o10 hv) (cwV 1 hts gX6_falls_X6_yearOn rfl rfl rfl (by decide +kernel) ⟨Nat.le_of_ble_eq_true rfl, Nat.le_of_ble_eq_true rfl⟩) (z_preV (wc := [(a_m, .inr (6, [.ref a_m_state, .ref a_m_readPage, .int m_toldOnce, .ref a_m_tape, .int m_taped, .int m_fault, .int m_broken, .int m_brokenAt, .int m_spot, .int m_here, .int m_token, .int m_value, .ref a_m_cuts, .ref a_m_letters, .int m_silent, .int m_greatest, .int m_moves, .int m_holders, .ref a_m_seen, .int m_seenMany, .ref a_m_pointBy, .ref a_m_isKept, .ref a_m_lanes, .ref a_m_lengths, .ref a_m_sheetCells, .int m_torn])), (a_m_state, .inl (k 0, 156, .inl x2.2))]) [0, 1] 0 6 hK hE hA hP hD hS (by decide) rfl rfl rfl) rfl rfl hl.1 rfl (lv_room (Nat.le_of_ble_eq_true rfl)) dX6_falls_29 ⟨Nat.le_refl _, Nat.le_refl _⟩) hA hP hD hS rfl rfl rfl rfl (fun H locs hP hD hS => ?_)
      refine lv_iinc (v := x2.1 + (1 : Int32)) (lv' := [(1, .int (x2.1 + (1 : Int32))), (0, .ref a_m)]) hx hb dX6_falls_32 hl (k := 1) rfl rfl (by decide) rfl (fun ls hl => ?_)
      refine lv_goto (tgt := 9) hx hb dX6_falls_35 (by decide) ?_
      exact hC3 _ (zs h) H locs ls hP hD hS (lv_sub hl [1, 0] rfl)
    · have h := zif c11 h
      refine lv_iload_n hx hb dX6_falls_24 rfl (lv_at hl 1 rfl) ?_
      have hr := (hJ5 _ (hX4 _ (zs h)))
      subst hr
      exact hret H locs ls 25 hP hS dX6_falls_25
set_option maxHeartbeats 4000000 in
set_option maxRecDepth 100000 in
theorem c_X6_comesOn (l : Launch) (G : va_G) (k : Nat → ClassId) (tL tM : Nat) (sK sV : Nat → Nat) (a_m : Nat) (a_m_state : Nat) (a_m_readPage : Nat) (a_m_tape : Nat) (a_m_cuts : Nat) (a_m_letters : Nat) (a_m_seen : Nat) (a_m_pointBy : Nat) (a_m_isKept : Nat) (a_m_lanes : Nat) (a_m_lengths : Nat) (a_m_sheetCells : Nat) (sz : Nat) (m_toldOnce : Int32) (m_taped : Int32) (m_fault : Int32) (m_broken : Int32) (m_brokenAt : Int32) (m_spot : Int32) (m_here : Int32) (m_token : Int32) (m_value : Int32) (m_silent : Int32) (m_greatest : Int32) (m_moves : Int32) (m_holders : Int32) (m_seenMany : Int32) (m_torn : Int32) (m_state : Nat → Int32) (u1 : Int32) (u2 : Int32) (out : Int32 × (Nat → Int32)) (h : p_X6_comesOn u1 u2 m_silent m_state = some out) : zMi l yX6_comesOn wsX6_comesOn 6 131 G k tL tM sK sV [.ref a_m, .int u1, .int u2] [(a_m, .inr (6, [.ref a_m_state, .ref a_m_readPage, .int m_toldOnce, .ref a_m_tape, .int m_taped, .int m_fault, .int m_broken, .int m_brokenAt, .int m_spot, .int m_here, .int m_token, .int m_value, .ref a_m_cuts, .ref a_m_letters, .int m_silent, .int m_greatest, .int m_moves, .int m_holders, .ref a_m_seen, .int m_seenMany, .ref a_m_pointBy, .ref a_m_isKept, .ref a_m_lanes, .ref a_m_lengths, .ref a_m_sheetCells, .int m_torn])), (a_m_state, .inl (k 0, 156, .inl m_state))] [(a_m, .inr (6, [.ref a_m_state, .ref a_m_readPage, .int m_toldOnce, .ref a_m_tape, .int m_taped, .int m_fault, .int m_broken, .int m_brokenAt, .int m_spot, .int m_here, .int m_token, .int m_value, .ref a_m_cuts, .ref a_m_letters, .int m_silent, .int m_greatest, .int m_moves, .int m_holders, .ref a_m_seen, .int m_seenMany, .ref a_m_pointBy, .ref a_m_isKept, .ref a_m_lanes, .ref a_m_lengths, .ref a_m_sheetCells, .int m_torn])), (a_m_state, .inl (k 0, 156, .inl out.2))] out.1 sz := by
  refine z_meti (cc := cX6_comesOn) (maxL := 4) (by decide) rfl (Nat.le_of_ble_eq_true rfl) ?_
  intro p e s m below meth c A Q H locs ls hx hb hml hts hown hA hK hE hret hP hD hS hl
  have hown : s.vm.findClass RX6 = some m.cls := hown
  have hl : lv_has ls 4 [(0, .ref a_m), (1, .int u1), (2, .int u2)] := hl
  unfold p_X6_comesOn at h
  refine lv_aload_n hx hb dX6_comesOn_0 rfl (lv_at hl 0 rfl) ?_
  refine lv_iload_n hx hb dX6_comesOn_1 rfl (lv_at hl 1 rfl) ?_
  refine lv_bipush (v := 104) hx hb dX6_comesOn_2 (by decide) ?_
  obtain ⟨o1, hv, h⟩ := zb h
  refine z_gov (w2 := [(a_m, .inr (6, [.ref a_m_state, .ref a_m_readPage, .int m_toldOnce, .ref a_m_tape, .int m_taped, .int m_fault, .int m_broken, .int m_brokenAt, .int m_spot, .int m_here, .int m_token, .int m_value, .ref a_m_cuts, .ref a_m_letters, .int m_silent, .int m_greatest, .int m_moves, .int m_holders, .ref a_m_seen, .int m_seenMany, .ref a_m_pointBy, .ref a_m_isKept, .ref a_m_lanes, .ref a_m_lengths, .ref a_m_sheetCells, .int m_torn])), (a_m_state, .inl (k 0, 156, .inl o1))]) [0, 1] (va_runV (As := [.int u1, .int (104 : Int32)]) (rest := []) ⟨hx, hb, hml, hown, hts⟩ (c_X6_copies l G k tL tM sK sV a_m a_m_state a_m_readPage a_m_tape a_m_cuts a_m_letters a_m_seen a_m_pointBy a_m_isKept a_m_lanes a_m_lengths a_m_sheetCells H.size m_toldOnce m_taped m_fault m_broken m_brokenAt m_spot m_here m_token m_value m_silent m_greatest m_moves m_holders m_seenMany m_torn m_state u1 (104 : Int32) o1 hv) (cwV 2 hts gX6_comesOn_X6_copies rfl rfl rfl (by decide +kernel) ⟨Nat.le_of_ble_eq_true rfl, Nat.le_of_ble_eq_true rfl⟩) (z_preV (wc := [(a_m, .inr (6, [.ref a_m_state, .ref a_m_readPage, .int m_toldOnce, .ref a_m_tape, .int m_taped, .int m_fault, .int m_broken, .int m_brokenAt, .int m_spot, .int m_here, .int m_token, .int m_value, .ref a_m_cuts, .ref a_m_letters, .int m_silent, .int m_greatest, .int m_moves, .int m_holders, .ref a_m_seen, .int m_seenMany, .ref a_m_pointBy, .ref a_m_isKept, .ref a_m_lanes, .ref a_m_lengths, .ref a_m_sheetCells, .int m_torn])), (a_m_state, .inl (k 0, 156, .inl m_state))]) [0, 1] 0 6 hK hE hA hP hD hS (by decide) rfl rfl rfl) rfl rfl hl.1 rfl (lv_room (Nat.le_of_ble_eq_true rfl)) dX6_comesOn_4 ⟨Nat.le_refl _, Nat.le_refl _⟩) hA hP hD hS rfl rfl rfl rfl (fun H locs hP hD hS => ?_)
  refine lv_iconst (v := 0) hx hb dX6_comesOn_7 (by decide) ?_
  refine lv_istore_n (lv' := [(3, .int (0 : Int32)), (0, .ref a_m), (1, .int u1), (2, .int u2)]) hx hb dX6_comesOn_8 rfl hl (by decide) rfl (fun ls hl => ?_)
  obtain ⟨e7, hv, h⟩ := zb h
  have hJ5 : ∀ (x : Int32 × (Nat → Int32)), .inl x = e7 → x = out := fun x hz => (zs (zpeel_0_2 hz h))
  have hJ6 : ∀ (v8 : (Nat → Int32)), .inr v8 = e7 → zW p l e (zR 6 131) s m ([.ref a_m, .int u1, .int u2] : List Value).toArray below meth c Q 4 A G [(a_m, .inr (6, [.ref a_m_state, .ref a_m_readPage, .int m_toldOnce, .ref a_m_tape, .int m_taped, .int m_fault, .int m_broken, .int m_brokenAt, .int m_spot, .int m_here, .int m_token, .int m_value, .ref a_m_cuts, .ref a_m_letters, .int m_silent, .int m_greatest, .int m_moves, .int m_holders, .ref a_m_seen, .int m_seenMany, .ref a_m_pointBy, .ref a_m_isKept, .ref a_m_lanes, .ref a_m_lengths, .ref a_m_sheetCells, .int m_torn])), (a_m_state, .inl (k 0, 156, .inl v8))] [] 39 [] := by
    intro v8 hz
    have h := (zpeel_1_2 hz h)
    intro H locs ls hP hD hS hl
    refine lv_bipush (v := (-4)) hx hb dX6_comesOn_39 (by decide) ?_
    have hr := (zs h)
    subst hr
    exact hret H locs ls 41 hP hS dX6_comesOn_41
  refine z_lpW (Wh := fun (x2 : Int32 × (Nat → Int32)) => zW p l e (zR 6 131) s m ([.ref a_m, .int u1, .int u2] : List Value).toArray below meth c Q 4 A G [(a_m, .inr (6, [.ref a_m_state, .ref a_m_readPage, .int m_toldOnce, .ref a_m_tape, .int m_taped, .int m_fault, .int m_broken, .int m_brokenAt, .int m_spot, .int m_here, .int m_token, .int m_value, .ref a_m_cuts, .ref a_m_letters, .int m_silent, .int m_greatest, .int m_moves, .int m_holders, .ref a_m_seen, .int m_seenMany, .ref a_m_pointBy, .ref a_m_isKept, .ref a_m_lanes, .ref a_m_lengths, .ref a_m_sheetCells, .int m_torn])), (a_m_state, .inl (k 0, 156, .inl x2.2))] [(0, .ref a_m), (2, .int u2), (3, .int x2.1)] 9 []) ?_ 1000 _ hv H locs ls hP hD hS (lv_sub hl [1, 3, 0] rfl)
  clear h
  intro x2 o h hC3 hX4 H locs ls hP hD hS hl
  unfold p_X6_comesOn_b9 at h
  refine lv_iload_n hx hb dX6_comesOn_9 rfl (lv_at hl 2 rfl) ?_
  refine lv_bipush (v := 60) hx hb dX6_comesOn_10 (by decide) ?_
  refine lv_icmp_gt (tgt := 39) hx hb dX6_comesOn_12 (by decide) (fun c12 => ?_) (fun c12 => ?_)
  · have h := zit c12 h
    exact hJ6 _ (hX4 _ (zs h)) H locs ls hP hD hS (lv_sub hl [] rfl)
  · have h := zif c12 h
    refine lv_aload_n hx hb dX6_comesOn_15 rfl (lv_at hl 0 rfl) ?_
    refine lv_bipush (v := 104) hx hb dX6_comesOn_16 (by decide) ?_
    obtain ⟨o9, hv, h⟩ := zb h
    refine z_goi (w2 := [(a_m, .inr (6, [.ref a_m_state, .ref a_m_readPage, .int m_toldOnce, .ref a_m_tape, .int m_taped, .int m_fault, .int m_broken, .int m_brokenAt, .int m_spot, .int m_here, .int m_token, .int m_value, .ref a_m_cuts, .ref a_m_letters, .int m_silent, .int m_greatest, .int m_moves, .int m_holders, .ref a_m_seen, .int m_seenMany, .ref a_m_pointBy, .ref a_m_isKept, .ref a_m_lanes, .ref a_m_lengths, .ref a_m_sheetCells, .int m_torn])), (a_m_state, .inl (k 0, 156, .inl x2.2))]) [0, 1] (va_runV (As := [.int (104 : Int32)]) (rest := []) ⟨hx, hb, hml, hown, hts⟩ (c_X6_pointOn l G k tL tM sK sV a_m a_m_state a_m_readPage a_m_tape a_m_cuts a_m_letters a_m_seen a_m_pointBy a_m_isKept a_m_lanes a_m_lengths a_m_sheetCells H.size m_toldOnce m_taped m_fault m_broken m_brokenAt m_spot m_here m_token m_value m_silent m_greatest m_moves m_holders m_seenMany m_torn x2.2 (104 : Int32) o9 hv) (cwV 1 hts gX6_comesOn_X6_pointOn rfl rfl rfl (by decide +kernel) ⟨Nat.le_of_ble_eq_true rfl, Nat.le_of_ble_eq_true rfl⟩) (z_preV (wc := [(a_m, .inr (6, [.ref a_m_state, .ref a_m_readPage, .int m_toldOnce, .ref a_m_tape, .int m_taped, .int m_fault, .int m_broken, .int m_brokenAt, .int m_spot, .int m_here, .int m_token, .int m_value, .ref a_m_cuts, .ref a_m_letters, .int m_silent, .int m_greatest, .int m_moves, .int m_holders, .ref a_m_seen, .int m_seenMany, .ref a_m_pointBy, .ref a_m_isKept, .ref a_m_lanes, .ref a_m_lengths, .ref a_m_sheetCells, .int m_torn])), (a_m_state, .inl (k 0, 156, .inl x2.2))]) [0, 1] 0 6 hK hE hA hP hD hS (by decide) rfl rfl rfl) rfl rfl hl.1 rfl (lv_room (Nat.le_of_ble_eq_true rfl)) dX6_comesOn_18 ⟨Nat.le_refl _, Nat.le_refl _⟩) hA hP hD hS rfl rfl rfl rfl (fun H locs hP hD hS => ?_)
    refine lv_iload_n hx hb dX6_comesOn_21 rfl (lv_at hl 1 rfl) ?_
    refine lv_icmp_ne (tgt := 27) hx hb dX6_comesOn_22 (by decide) (fun c11 => ?_) (fun c11 => ?_)
    · have h := zif c11 h
      refine lv_aload_n hx hb dX6_comesOn_27 rfl (lv_at hl 0 rfl) ?_
      refine lv_bipush (v := 104) hx hb dX6_comesOn_28 (by decide) ?_
      obtain ⟨o10, hv, h⟩ := zb h
      refine z_gov (w2 := [(a_m, .inr (6, [.ref a_m_state, .ref a_m_readPage, .int m_toldOnce, .ref a_m_tape, .int m_taped, .int m_fault, .int m_broken, .int m_brokenAt, .int m_spot, .int m_here, .int m_token, .int m_value, .ref a_m_cuts, .ref a_m_letters, .int m_silent, .int m_greatest, .int m_moves, .int m_holders, .ref a_m_seen, .int m_seenMany, .ref a_m_pointBy, .ref a_m_isKept, .ref a_m_lanes, .ref a_m_lengths, .ref a_m_sheetCells, .int m_torn])), (a_m_state, .inl (k 0, 156, .inl o10))]) [0, 1] (va_runV (As := [.int (104 : Int32)]) (rest := []) ⟨hx, hb, hml, hown, hts⟩ (c_X6_yearOn l G k tL tM sK sV a_m a_m_state a_m_readPage a_m_tape a_m_cuts a_m_letters a_m_seen a_m_pointBy a_m_isKept a_m_lanes a_m_lengths a_m_sheetCells H.size m_toldOnce m_taped m_fault m_broken m_brokenAt m_spot m_here m_token m_value m_silent m_greatest m_moves m_holders m_seenMany m_torn x2.2 (104 : Int32) o10 hv) (cwV 1 hts gX6_comesOn_X6_yearOn rfl rfl rfl (by decide +kernel) ⟨Nat.le_of_ble_eq_true rfl, Nat.le_of_ble_eq_true rfl⟩) (z_preV (wc := [(a_m, .inr (6, [.ref a_m_state, .ref a_m_readPage, .int m_toldOnce, .ref a_m_tape, .int m_taped, .int m_fault, .int m_broken, .int m_brokenAt, .int m_spot, .int m_here, .int m_token, .int m_value, .ref a_m_cuts, .ref a_m_letters, .int m_silent, .int m_greatest, .int m_moves, .int m_holders, .ref a_m_seen, .int m_seenMany, .ref a_m_pointBy, .ref a_m_isKept, .ref a_m_lanes, .ref a_m_lengths, .ref a_m_sheetCells, .int m_torn])), (a_m_state, .inl (k 0, 156, .inl x2.2))]) [0, 1] 0 6 hK hE hA hP hD hS (by decide) rfl rfl rfl) rfl rfl hl.1 rfl (lv_room (Nat.le_of_ble_eq_true rfl)) dX6_comesOn_30 ⟨Nat.le_refl _, Nat.le_refl _⟩) hA hP hD hS rfl rfl rfl rfl (fun H locs hP hD hS => ?_)
      refine lv_iinc (v := x2.1 + (1 : Int32)) (lv' := [(3, .int (x2.1 + (1 : Int32))), (0, .ref a_m), (2, .int u2)]) hx hb dX6_comesOn_33 hl (k := 2) rfl rfl (by decide) rfl (fun ls hl => ?_)
      refine lv_goto (tgt := 9) hx hb dX6_comesOn_36 (by decide) ?_
      exact hC3 _ (zs h) H locs ls hP hD hS (lv_sub hl [1, 2, 0] rfl)
    · have h := zit c11 h
      refine lv_iload_n hx hb dX6_comesOn_25 rfl (lv_at hl 2 rfl) ?_
      have hr := (hJ5 _ (hX4 _ (zs h)))
      subst hr
      exact hret H locs ls 26 hP hS dX6_comesOn_26
set_option maxHeartbeats 4000000 in
set_option maxRecDepth 100000 in
theorem c_X6_comes (l : Launch) (G : va_G) (k : Nat → ClassId) (tL tM : Nat) (sK sV : Nat → Nat) (a_m : Nat) (a_m_state : Nat) (a_m_readPage : Nat) (a_m_tape : Nat) (a_m_cuts : Nat) (a_m_letters : Nat) (a_m_seen : Nat) (a_m_pointBy : Nat) (a_m_isKept : Nat) (a_m_lanes : Nat) (a_m_lengths : Nat) (a_m_sheetCells : Nat) (sz : Nat) (m_toldOnce : Int32) (m_taped : Int32) (m_fault : Int32) (m_broken : Int32) (m_brokenAt : Int32) (m_spot : Int32) (m_here : Int32) (m_token : Int32) (m_value : Int32) (m_silent : Int32) (m_greatest : Int32) (m_moves : Int32) (m_holders : Int32) (m_seenMany : Int32) (m_torn : Int32) (m_state : Nat → Int32) (u1 : Int32) (out : Int32 × (Nat → Int32)) (h : p_X6_comes u1 m_silent m_state = some out) : zMi l yX6_comes wsX6_comes 7 154 G k tL tM sK sV [.ref a_m, .int u1] [(a_m, .inr (6, [.ref a_m_state, .ref a_m_readPage, .int m_toldOnce, .ref a_m_tape, .int m_taped, .int m_fault, .int m_broken, .int m_brokenAt, .int m_spot, .int m_here, .int m_token, .int m_value, .ref a_m_cuts, .ref a_m_letters, .int m_silent, .int m_greatest, .int m_moves, .int m_holders, .ref a_m_seen, .int m_seenMany, .ref a_m_pointBy, .ref a_m_isKept, .ref a_m_lanes, .ref a_m_lengths, .ref a_m_sheetCells, .int m_torn])), (a_m_state, .inl (k 0, 156, .inl m_state))] [(a_m, .inr (6, [.ref a_m_state, .ref a_m_readPage, .int m_toldOnce, .ref a_m_tape, .int m_taped, .int m_fault, .int m_broken, .int m_brokenAt, .int m_spot, .int m_here, .int m_token, .int m_value, .ref a_m_cuts, .ref a_m_letters, .int m_silent, .int m_greatest, .int m_moves, .int m_holders, .ref a_m_seen, .int m_seenMany, .ref a_m_pointBy, .ref a_m_isKept, .ref a_m_lanes, .ref a_m_lengths, .ref a_m_sheetCells, .int m_torn])), (a_m_state, .inl (k 0, 156, .inl out.2))] out.1 sz := by
  refine z_meti (cc := cX6_comes) (maxL := 2) (by decide) rfl (Nat.le_of_ble_eq_true rfl) ?_
  intro p e s m below meth c A Q H locs ls hx hb hml hts hown hA hK hE hret hP hD hS hl
  have hown : s.vm.findClass RX6 = some m.cls := hown
  have hl : lv_has ls 2 [(0, .ref a_m), (1, .int u1)] := hl
  unfold p_X6_comes at h
  refine lv_iload_n hx hb dX6_comes_0 rfl (lv_at hl 1 rfl) ?_
  obtain ⟨o1, hv, h⟩ := zb h
  refine z_goi (w2 := [(a_m, .inr (6, [.ref a_m_state, .ref a_m_readPage, .int m_toldOnce, .ref a_m_tape, .int m_taped, .int m_fault, .int m_broken, .int m_brokenAt, .int m_spot, .int m_here, .int m_token, .int m_value, .ref a_m_cuts, .ref a_m_letters, .int m_silent, .int m_greatest, .int m_moves, .int m_holders, .ref a_m_seen, .int m_seenMany, .ref a_m_pointBy, .ref a_m_isKept, .ref a_m_lanes, .ref a_m_lengths, .ref a_m_sheetCells, .int m_torn])), (a_m_state, .inl (k 0, 156, .inl m_state))]) [] (va_runS (As := [.int u1]) (rest := []) ⟨hx, hb, hml, hown, hts⟩ (c_X6_isCell l G k tL tM sK sV H.size u1 o1 hv) (va_cwS 1 hts gX6_comes_X6_isCell rfl rfl rfl (by decide +kernel) ⟨Nat.le_of_ble_eq_true rfl, Nat.le_of_ble_eq_true rfl⟩) (z_preS (wc := []) [] hK hE hA hP hD hS (by decide) rfl) rfl rfl hl.1 rfl (lv_room (Nat.le_of_ble_eq_true rfl)) dX6_comes_1 ⟨Nat.le_refl _, Nat.le_refl _⟩) hA hP hD hS rfl rfl rfl rfl (fun H locs hP hD hS => ?_)
  refine lv_if_eq (tgt := 16) hx hb dX6_comes_4 (by decide) (fun c3 => ?_) (fun c3 => ?_)
  · have h := zit c3 h
    refine lv_iconst (v := (-1)) hx hb dX6_comes_16 (by decide) ?_
    have hr := (zs h)
    subst hr
    exact hret H locs ls 17 hP hS dX6_comes_17
  · have h := zif c3 h
    refine lv_aload_n hx hb dX6_comes_7 rfl (lv_at hl 0 rfl) ?_
    refine lv_iconst (v := 0) hx hb dX6_comes_8 (by decide) ?_
    refine lv_iload_n hx hb dX6_comes_9 rfl (lv_at hl 1 rfl) ?_
    obtain ⟨o2, hv, h⟩ := zb h
    refine z_goi (w2 := [(a_m, .inr (6, [.ref a_m_state, .ref a_m_readPage, .int m_toldOnce, .ref a_m_tape, .int m_taped, .int m_fault, .int m_broken, .int m_brokenAt, .int m_spot, .int m_here, .int m_token, .int m_value, .ref a_m_cuts, .ref a_m_letters, .int m_silent, .int m_greatest, .int m_moves, .int m_holders, .ref a_m_seen, .int m_seenMany, .ref a_m_pointBy, .ref a_m_isKept, .ref a_m_lanes, .ref a_m_lengths, .ref a_m_sheetCells, .int m_torn])), (a_m_state, .inl (k 0, 156, .inl o2.2))]) [0, 1] (va_runV (As := [.int (0 : Int32), .int u1]) (rest := []) ⟨hx, hb, hml, hown, hts⟩ (c_X6_comesOn l G k tL tM sK sV a_m a_m_state a_m_readPage a_m_tape a_m_cuts a_m_letters a_m_seen a_m_pointBy a_m_isKept a_m_lanes a_m_lengths a_m_sheetCells H.size m_toldOnce m_taped m_fault m_broken m_brokenAt m_spot m_here m_token m_value m_silent m_greatest m_moves m_holders m_seenMany m_torn m_state (0 : Int32) u1 o2 hv) (cwV 2 hts gX6_comes_X6_comesOn rfl rfl rfl (by decide +kernel) ⟨Nat.le_of_ble_eq_true rfl, Nat.le_of_ble_eq_true rfl⟩) (z_preV (wc := [(a_m, .inr (6, [.ref a_m_state, .ref a_m_readPage, .int m_toldOnce, .ref a_m_tape, .int m_taped, .int m_fault, .int m_broken, .int m_brokenAt, .int m_spot, .int m_here, .int m_token, .int m_value, .ref a_m_cuts, .ref a_m_letters, .int m_silent, .int m_greatest, .int m_moves, .int m_holders, .ref a_m_seen, .int m_seenMany, .ref a_m_pointBy, .ref a_m_isKept, .ref a_m_lanes, .ref a_m_lengths, .ref a_m_sheetCells, .int m_torn])), (a_m_state, .inl (k 0, 156, .inl m_state))]) [0, 1] 0 6 hK hE hA hP hD hS (by decide) rfl rfl rfl) rfl rfl hl.1 rfl (lv_room (Nat.le_of_ble_eq_true rfl)) dX6_comes_10 ⟨Nat.le_refl _, Nat.le_refl _⟩) hA hP hD hS rfl rfl rfl rfl (fun H locs hP hD hS => ?_)
    refine lv_goto (tgt := 17) hx hb dX6_comes_13 (by decide) ?_
    have hr := (zs h)
    subst hr
    exact hret H locs ls 17 hP hS dX6_comes_17
set_option maxHeartbeats 4000000 in
set_option maxRecDepth 100000 in
theorem c_X6_lowest (l : Launch) (G : va_G) (k : Nat → ClassId) (tL tM : Nat) (sK sV : Nat → Nat) (sz : Nat) (u1 : Int64) (u2 : Int64) (u3 : Int32) (out : Int64) (h : p_X6_lowest u1 u2 u3 = some out) : zMl l yX6_lowest wsX6_lowest 0 0 G k tL tM sK sV [.long u1, .long u2, .int u3] [] [] out sz := by
  refine z_metl (cc := cX6_lowest) (maxL := 11) (by decide) rfl (Nat.le_of_ble_eq_true rfl) ?_
  intro p e s m below meth c A Q H locs ls hx hb hml hts hown hA hK hE hret hP hD hS hl
  have hown : s.vm.findClass RX6 = some m.cls := hown
  have hl : lv_has ls 11 [(0, .long u1), (2, .long u2), (4, .int u3)] := hl
  unfold p_X6_lowest at h
  refine lv_lload_n hx hb dX6_lowest_0 rfl (lv_at hl 0 rfl) ?_
  refine lv_lstore (lv' := [(5, .long u1), (0, .long u1), (2, .long u2), (4, .int u3)]) hx hb dX6_lowest_1 hl (by decide) rfl (fun ls hl => ?_)
  refine lv_lload_n hx hb dX6_lowest_3 rfl (lv_at hl 2 rfl) ?_
  refine lv_lstore (lv' := [(7, .long u2), (5, .long u1), (0, .long u1), (2, .long u2), (4, .int u3)]) hx hb dX6_lowest_4 hl (by decide) rfl (fun ls hl => ?_)
  obtain ⟨e5, hv, h⟩ := zb h
  have hJ4 : ∀ (e5_ : Int64), e5_ = e5 → zW p l e (zR 0 0) s m ([.long u1, .long u2, .int u3] : List Value).toArray below meth c Q 11 A G [] [(0, .long u1), (2, .long u2), (4, .int u3), (5, .long e5_)] 31 [] := by
    intro e5_ hz
    subst hz
    intro H locs ls hP hD hS hl
    refine lv_iload hx hb dX6_lowest_31 (lv_at hl 2 rfl) ?_
    refine lv_if_ne (tgt := 40) hx hb dX6_lowest_33 (by decide) (fun c11 => ?_) (fun c11 => ?_)
    · have h := zif c11 h
      refine lv_lload_n hx hb dX6_lowest_40 rfl (lv_at hl 1 rfl) ?_
      refine lv_lload hx hb dX6_lowest_41 (lv_at hl 3 rfl) ?_
      obtain ⟨v9, hv, h⟩ := zb h
      obtain ⟨hne, hvv⟩ := z_divLS hv
      refine lv_ldiv hx hb dX6_lowest_43 hne ?_
      rw [hvv]
      have hr := (zs h)
      subst hr
      exact hret H locs ls 44 hP hS dX6_lowest_44
    · have h := zit c11 h
      refine lv_lload_n hx hb dX6_lowest_36 rfl (lv_at hl 0 rfl) ?_
      refine lv_goto (tgt := 41) hx hb dX6_lowest_37 (by decide) ?_
      refine lv_lload hx hb dX6_lowest_41 (lv_at hl 3 rfl) ?_
      obtain ⟨v10, hv, h⟩ := zb h
      obtain ⟨hne, hvv⟩ := z_divLS hv
      refine lv_ldiv hx hb dX6_lowest_43 hne ?_
      rw [hvv]
      have hr := (zs h)
      subst hr
      exact hret H locs ls 44 hP hS dX6_lowest_44
  refine z_lpW (Wh := fun (x1 : Int64 × Int64) => zW p l e (zR 0 0) s m ([.long u1, .long u2, .int u3] : List Value).toArray below meth c Q 11 A G [] [(0, .long u1), (2, .long u2), (4, .int u3), (5, .long x1.1), (7, .long x1.2)] 6 []) ?_ 1000 _ hv H locs ls hP hD hS (lv_sub hl [2, 3, 4, 1, 0] rfl)
  clear h
  intro x1 o h hC2 hX3 H locs ls hP hD hS hl
  unfold p_X6_lowest_b6 at h
  refine lv_lload hx hb dX6_lowest_6 (lv_at hl 4 rfl) ?_
  refine lv_lconst (v := 0) hx hb dX6_lowest_8 (by decide) ?_
  refine W.lcmp hx hb dX6_lowest_9 ?_
  refine lv_if_eq (tgt := 31) hx hb dX6_lowest_10 (by decide) (fun c8 => ?_) (fun c8 => ?_)
  · have h := zit c8 h
    exact hJ4 _ (hX3 _ (zs h)) H locs ls hP hD hS (lv_sub hl [0, 1, 2, 3] rfl)
  · have h := zif c8 h
    refine lv_lload hx hb dX6_lowest_13 (lv_at hl 3 rfl) ?_
    refine lv_lload hx hb dX6_lowest_15 (lv_at hl 4 rfl) ?_
    obtain ⟨v7, hv, h⟩ := zb h
    obtain ⟨hne, hvv⟩ := z_remLS hv
    refine lv_lrem hx hb dX6_lowest_17 hne ?_
    rw [hvv]
    refine lv_lstore (lv' := [(9, .long v7), (0, .long u1), (2, .long u2), (4, .int u3), (5, .long x1.1), (7, .long x1.2)]) hx hb dX6_lowest_18 hl (by decide) rfl (fun ls hl => ?_)
    refine lv_lload hx hb dX6_lowest_20 (lv_at hl 5 rfl) ?_
    refine lv_lstore (lv' := [(5, .long x1.2), (9, .long v7), (0, .long u1), (2, .long u2), (4, .int u3), (7, .long x1.2)]) hx hb dX6_lowest_22 hl (by decide) rfl (fun ls hl => ?_)
    refine lv_lload hx hb dX6_lowest_24 (lv_at hl 1 rfl) ?_
    refine lv_lstore (lv' := [(7, .long v7), (5, .long x1.2), (9, .long v7), (0, .long u1), (2, .long u2), (4, .int u3)]) hx hb dX6_lowest_26 hl (by decide) rfl (fun ls hl => ?_)
    refine lv_goto (tgt := 6) hx hb dX6_lowest_28 (by decide) ?_
    exact hC2 _ (zs h) H locs ls hP hD hS (lv_sub hl [3, 4, 5, 1, 0] rfl)
set_option maxHeartbeats 4000000 in
set_option maxRecDepth 100000 in
theorem c_X6_share (l : Launch) (G : va_G) (k : Nat → ClassId) (tL tM : Nat) (sK sV : Nat → Nat) (a_m : Nat) (a_m_state : Nat) (a_m_readPage : Nat) (a_m_tape : Nat) (a_m_cuts : Nat) (a_m_letters : Nat) (a_m_seen : Nat) (a_m_pointBy : Nat) (a_m_isKept : Nat) (a_m_lanes : Nat) (a_m_lengths : Nat) (a_m_sheetCells : Nat) (sz : Nat) (m_toldOnce : Int32) (m_taped : Int32) (m_fault : Int32) (m_broken : Int32) (m_brokenAt : Int32) (m_spot : Int32) (m_here : Int32) (m_token : Int32) (m_value : Int32) (m_silent : Int32) (m_greatest : Int32) (m_moves : Int32) (m_holders : Int32) (m_seenMany : Int32) (m_torn : Int32) (m_state : Nat → Int32) (u1 : Int32) (u2 : Int32) (u3 : Int32) (out : Int64 × (Nat → Int32)) (h : p_X6_share u1 u2 u3 m_silent m_state = some out) : zMl l yX6_share wsX6_share 6 131 G k tL tM sK sV [.ref a_m, .int u1, .int u2, .int u3] [(a_m, .inr (6, [.ref a_m_state, .ref a_m_readPage, .int m_toldOnce, .ref a_m_tape, .int m_taped, .int m_fault, .int m_broken, .int m_brokenAt, .int m_spot, .int m_here, .int m_token, .int m_value, .ref a_m_cuts, .ref a_m_letters, .int m_silent, .int m_greatest, .int m_moves, .int m_holders, .ref a_m_seen, .int m_seenMany, .ref a_m_pointBy, .ref a_m_isKept, .ref a_m_lanes, .ref a_m_lengths, .ref a_m_sheetCells, .int m_torn])), (a_m_state, .inl (k 0, 156, .inl m_state))] [(a_m, .inr (6, [.ref a_m_state, .ref a_m_readPage, .int m_toldOnce, .ref a_m_tape, .int m_taped, .int m_fault, .int m_broken, .int m_brokenAt, .int m_spot, .int m_here, .int m_token, .int m_value, .ref a_m_cuts, .ref a_m_letters, .int m_silent, .int m_greatest, .int m_moves, .int m_holders, .ref a_m_seen, .int m_seenMany, .ref a_m_pointBy, .ref a_m_isKept, .ref a_m_lanes, .ref a_m_lengths, .ref a_m_sheetCells, .int m_torn])), (a_m_state, .inl (k 0, 156, .inl out.2))] out.1 sz := by
  refine z_metl (cc := cX6_share) (maxL := 6) (by decide) rfl (Nat.le_of_ble_eq_true rfl) ?_
  intro p e s m below meth c A Q H locs ls hx hb hml hts hown hA hK hE hret hP hD hS hl
  have hown : s.vm.findClass RX6 = some m.cls := hown
  have hl : lv_has ls 6 [(0, .ref a_m), (1, .int u1), (2, .int u2), (3, .int u3)] := hl
  unfold p_X6_share at h
  refine lv_aload_n hx hb dX6_share_0 rfl (lv_at hl 0 rfl) ?_
  refine lv_iload_n hx hb dX6_share_1 rfl (lv_at hl 1 rfl) ?_
  obtain ⟨o1, hv, h⟩ := zb h
  refine z_goi (w2 := [(a_m, .inr (6, [.ref a_m_state, .ref a_m_readPage, .int m_toldOnce, .ref a_m_tape, .int m_taped, .int m_fault, .int m_broken, .int m_brokenAt, .int m_spot, .int m_here, .int m_token, .int m_value, .ref a_m_cuts, .ref a_m_letters, .int m_silent, .int m_greatest, .int m_moves, .int m_holders, .ref a_m_seen, .int m_seenMany, .ref a_m_pointBy, .ref a_m_isKept, .ref a_m_lanes, .ref a_m_lengths, .ref a_m_sheetCells, .int m_torn])), (a_m_state, .inl (k 0, 156, .inl m_state))]) [0, 1] (va_runV (As := [.int u1]) (rest := []) ⟨hx, hb, hml, hown, hts⟩ (c_X6_isDraw l G k tL tM sK sV a_m a_m_state a_m_readPage a_m_tape a_m_cuts a_m_letters a_m_seen a_m_pointBy a_m_isKept a_m_lanes a_m_lengths a_m_sheetCells H.size m_toldOnce m_taped m_fault m_broken m_brokenAt m_spot m_here m_token m_value m_silent m_greatest m_moves m_holders m_seenMany m_torn m_state u1 o1 hv) (cwV 1 hts gX6_share_X6_isDraw rfl rfl rfl (by decide +kernel) ⟨Nat.le_of_ble_eq_true rfl, Nat.le_of_ble_eq_true rfl⟩) (z_preV (wc := [(a_m, .inr (6, [.ref a_m_state, .ref a_m_readPage, .int m_toldOnce, .ref a_m_tape, .int m_taped, .int m_fault, .int m_broken, .int m_brokenAt, .int m_spot, .int m_here, .int m_token, .int m_value, .ref a_m_cuts, .ref a_m_letters, .int m_silent, .int m_greatest, .int m_moves, .int m_holders, .ref a_m_seen, .int m_seenMany, .ref a_m_pointBy, .ref a_m_isKept, .ref a_m_lanes, .ref a_m_lengths, .ref a_m_sheetCells, .int m_torn])), (a_m_state, .inl (k 0, 156, .inl m_state))]) [0, 1] 0 6 hK hE hA hP hD hS (by decide) rfl rfl rfl) rfl rfl hl.1 rfl (lv_room (Nat.le_of_ble_eq_true rfl)) dX6_share_2 ⟨Nat.le_refl _, Nat.le_refl _⟩) hA hP hD hS rfl rfl rfl rfl (fun H locs hP hD hS => ?_)
  refine lv_if_eq (tgt := 30) hx hb dX6_share_5 (by decide) (fun c21 => ?_) (fun c21 => ?_)
  · have h := zit c21 h
    refine lv_ldc2 hx hb hown (hts (.constantLong RX6 208 (-1)) (List.mem_of_getElem? (i := 2) rfl)) dX6_share_30 ?_
    have hr := (zs h)
    subst hr
    exact hret H locs ls 33 hP hS dX6_share_33
  · have h := zif c21 h
    refine lv_iload_n hx hb dX6_share_8 rfl (lv_at hl 2 rfl) ?_
    refine lv_i2l (v := u2.toInt64) hx hb dX6_share_9 rfl ?_
    refine lv_lconst (v := 1) hx hb dX6_share_10 (by decide) ?_
    refine lv_ldc2 hx hb hown (hts (.constantLong RX6 163 (60)) (List.mem_of_getElem? (i := 1) rfl)) dX6_share_11 ?_
    obtain ⟨o2, hv, h⟩ := zb h
    refine z_goi (w2 := [(a_m, .inr (6, [.ref a_m_state, .ref a_m_readPage, .int m_toldOnce, .ref a_m_tape, .int m_taped, .int m_fault, .int m_broken, .int m_brokenAt, .int m_spot, .int m_here, .int m_token, .int m_value, .ref a_m_cuts, .ref a_m_letters, .int m_silent, .int m_greatest, .int m_moves, .int m_holders, .ref a_m_seen, .int m_seenMany, .ref a_m_pointBy, .ref a_m_isKept, .ref a_m_lanes, .ref a_m_lengths, .ref a_m_sheetCells, .int m_torn])), (a_m_state, .inl (k 0, 156, .inl m_state))]) [] (va_runS (As := [.long u2.toInt64, .long (1 : Int64), .long (60 : Int64)]) (rest := []) ⟨hx, hb, hml, hown, hts⟩ (c_X6_in l G k tL tM sK sV H.size u2.toInt64 (1 : Int64) (60 : Int64) o2 hv) (va_cwS 3 hts gX6_share_X6_in rfl rfl rfl (by decide +kernel) ⟨Nat.le_of_ble_eq_true rfl, Nat.le_of_ble_eq_true rfl⟩) (z_preS (wc := []) [] hK hE hA hP hD hS (by decide) rfl) rfl rfl hl.1 rfl (lv_room (Nat.le_of_ble_eq_true rfl)) dX6_share_14 ⟨Nat.le_refl _, Nat.le_refl _⟩) hA hP hD hS rfl rfl rfl rfl (fun H locs hP hD hS => ?_)
    refine lv_if_eq (tgt := 30) hx hb dX6_share_17 (by decide) (fun c20 => ?_) (fun c20 => ?_)
    · have h := zit c20 h
      refine lv_ldc2 hx hb hown (hts (.constantLong RX6 208 (-1)) (List.mem_of_getElem? (i := 2) rfl)) dX6_share_30 ?_
      have hr := (zs h)
      subst hr
      exact hret H locs ls 33 hP hS dX6_share_33
    · have h := zif c20 h
      refine lv_iload_n hx hb dX6_share_20 rfl (lv_at hl 3 rfl) ?_
      refine lv_i2l (v := u3.toInt64) hx hb dX6_share_21 rfl ?_
      refine lv_lconst (v := 0) hx hb dX6_share_22 (by decide) ?_
      refine lv_lconst (v := 1) hx hb dX6_share_23 (by decide) ?_
      obtain ⟨o3, hv, h⟩ := zb h
      refine z_goi (w2 := [(a_m, .inr (6, [.ref a_m_state, .ref a_m_readPage, .int m_toldOnce, .ref a_m_tape, .int m_taped, .int m_fault, .int m_broken, .int m_brokenAt, .int m_spot, .int m_here, .int m_token, .int m_value, .ref a_m_cuts, .ref a_m_letters, .int m_silent, .int m_greatest, .int m_moves, .int m_holders, .ref a_m_seen, .int m_seenMany, .ref a_m_pointBy, .ref a_m_isKept, .ref a_m_lanes, .ref a_m_lengths, .ref a_m_sheetCells, .int m_torn])), (a_m_state, .inl (k 0, 156, .inl m_state))]) [] (va_runS (As := [.long u3.toInt64, .long (0 : Int64), .long (1 : Int64)]) (rest := []) ⟨hx, hb, hml, hown, hts⟩ (c_X6_in l G k tL tM sK sV H.size u3.toInt64 (0 : Int64) (1 : Int64) o3 hv) (va_cwS 3 hts gX6_share_X6_in rfl rfl rfl (by decide +kernel) ⟨Nat.le_of_ble_eq_true rfl, Nat.le_of_ble_eq_true rfl⟩) (z_preS (wc := []) [] hK hE hA hP hD hS (by decide) rfl) rfl rfl hl.1 rfl (lv_room (Nat.le_of_ble_eq_true rfl)) dX6_share_24 ⟨Nat.le_refl _, Nat.le_refl _⟩) hA hP hD hS rfl rfl rfl rfl (fun H locs hP hD hS => ?_)
      refine lv_if_ne (tgt := 34) hx hb dX6_share_27 (by decide) (fun c19 => ?_) (fun c19 => ?_)
      · have h := zif c19 h
        refine lv_aload_n hx hb dX6_share_34 rfl (lv_at hl 0 rfl) ?_
        refine lv_iconst (v := 0) hx hb dX6_share_35 (by decide) ?_
        refine lv_bipush (v := 104) hx hb dX6_share_36 (by decide) ?_
        obtain ⟨o4, hv, h⟩ := zb h
        refine z_gov (w2 := [(a_m, .inr (6, [.ref a_m_state, .ref a_m_readPage, .int m_toldOnce, .ref a_m_tape, .int m_taped, .int m_fault, .int m_broken, .int m_brokenAt, .int m_spot, .int m_here, .int m_token, .int m_value, .ref a_m_cuts, .ref a_m_letters, .int m_silent, .int m_greatest, .int m_moves, .int m_holders, .ref a_m_seen, .int m_seenMany, .ref a_m_pointBy, .ref a_m_isKept, .ref a_m_lanes, .ref a_m_lengths, .ref a_m_sheetCells, .int m_torn])), (a_m_state, .inl (k 0, 156, .inl o4))]) [0, 1] (va_runV (As := [.int (0 : Int32), .int (104 : Int32)]) (rest := []) ⟨hx, hb, hml, hown, hts⟩ (c_X6_copies l G k tL tM sK sV a_m a_m_state a_m_readPage a_m_tape a_m_cuts a_m_letters a_m_seen a_m_pointBy a_m_isKept a_m_lanes a_m_lengths a_m_sheetCells H.size m_toldOnce m_taped m_fault m_broken m_brokenAt m_spot m_here m_token m_value m_silent m_greatest m_moves m_holders m_seenMany m_torn m_state (0 : Int32) (104 : Int32) o4 hv) (cwV 2 hts gX6_share_X6_copies rfl rfl rfl (by decide +kernel) ⟨Nat.le_of_ble_eq_true rfl, Nat.le_of_ble_eq_true rfl⟩) (z_preV (wc := [(a_m, .inr (6, [.ref a_m_state, .ref a_m_readPage, .int m_toldOnce, .ref a_m_tape, .int m_taped, .int m_fault, .int m_broken, .int m_brokenAt, .int m_spot, .int m_here, .int m_token, .int m_value, .ref a_m_cuts, .ref a_m_letters, .int m_silent, .int m_greatest, .int m_moves, .int m_holders, .ref a_m_seen, .int m_seenMany, .ref a_m_pointBy, .ref a_m_isKept, .ref a_m_lanes, .ref a_m_lengths, .ref a_m_sheetCells, .int m_torn])), (a_m_state, .inl (k 0, 156, .inl m_state))]) [0, 1] 0 6 hK hE hA hP hD hS (by decide) rfl rfl rfl) rfl rfl hl.1 rfl (lv_room (Nat.le_of_ble_eq_true rfl)) dX6_share_38 ⟨Nat.le_refl _, Nat.le_refl _⟩) hA hP hD hS rfl rfl rfl rfl (fun H locs hP hD hS => ?_)
        refine lv_iconst (v := 0) hx hb dX6_share_41 (by decide) ?_
        refine lv_istore (lv' := [(4, .int (0 : Int32)), (0, .ref a_m), (1, .int u1), (2, .int u2), (3, .int u3)]) hx hb dX6_share_42 hl (by decide) rfl (fun ls hl => ?_)
        refine lv_iconst (v := 0) hx hb dX6_share_44 (by decide) ?_
        refine lv_istore (lv' := [(5, .int (0 : Int32)), (4, .int (0 : Int32)), (0, .ref a_m), (1, .int u1), (2, .int u2), (3, .int u3)]) hx hb dX6_share_45 hl (by decide) rfl (fun ls hl => ?_)
        obtain ⟨e9, hv, h⟩ := zb h
        have hJ8 : ∀ (e9_ : Int32 × (Nat → Int32)), e9_ = e9 → zW p l e (zR 6 131) s m ([.ref a_m, .int u1, .int u2, .int u3] : List Value).toArray below meth c Q 6 A G [(a_m, .inr (6, [.ref a_m_state, .ref a_m_readPage, .int m_toldOnce, .ref a_m_tape, .int m_taped, .int m_fault, .int m_broken, .int m_brokenAt, .int m_spot, .int m_here, .int m_token, .int m_value, .ref a_m_cuts, .ref a_m_letters, .int m_silent, .int m_greatest, .int m_moves, .int m_holders, .ref a_m_seen, .int m_seenMany, .ref a_m_pointBy, .ref a_m_isKept, .ref a_m_lanes, .ref a_m_lengths, .ref a_m_sheetCells, .int m_torn])), (a_m_state, .inl (k 0, 156, .inl e9_.2))] [(2, .int u2), (3, .int u3), (4, .int e9_.1)] 85 [] := by
          intro e9_ hz
          subst hz
          intro H locs ls hP hD hS hl
          refine lv_iload hx hb dX6_share_85 (lv_at hl 2 rfl) ?_
          refine lv_i2l (v := e9_.1.toInt64) hx hb dX6_share_87 rfl ?_
          refine lv_iload_n hx hb dX6_share_88 rfl (lv_at hl 0 rfl) ?_
          refine lv_i2l (v := u2.toInt64) hx hb dX6_share_89 rfl ?_
          refine lv_iload_n hx hb dX6_share_90 rfl (lv_at hl 1 rfl) ?_
          obtain ⟨o18, hv, h⟩ := zb h
          refine z_gol (w2 := [(a_m, .inr (6, [.ref a_m_state, .ref a_m_readPage, .int m_toldOnce, .ref a_m_tape, .int m_taped, .int m_fault, .int m_broken, .int m_brokenAt, .int m_spot, .int m_here, .int m_token, .int m_value, .ref a_m_cuts, .ref a_m_letters, .int m_silent, .int m_greatest, .int m_moves, .int m_holders, .ref a_m_seen, .int m_seenMany, .ref a_m_pointBy, .ref a_m_isKept, .ref a_m_lanes, .ref a_m_lengths, .ref a_m_sheetCells, .int m_torn])), (a_m_state, .inl (k 0, 156, .inl e9_.2))]) [] (va_runS (As := [.long e9_.1.toInt64, .long u2.toInt64, .int u3]) (rest := []) ⟨hx, hb, hml, hown, hts⟩ (c_X6_lowest l G k tL tM sK sV H.size e9_.1.toInt64 u2.toInt64 u3 o18 hv) (va_cwS 3 hts gX6_share_X6_lowest rfl rfl rfl (by decide +kernel) ⟨Nat.le_of_ble_eq_true rfl, Nat.le_of_ble_eq_true rfl⟩) (z_preS (wc := []) [] hK hE hA hP hD hS (by decide) rfl) rfl rfl hl.1 rfl (lv_room (Nat.le_of_ble_eq_true rfl)) dX6_share_91 ⟨Nat.le_refl _, Nat.le_refl _⟩) hA hP hD hS rfl rfl rfl rfl (fun H locs hP hD hS => ?_)
          have hr := (zs h)
          subst hr
          exact hret H locs ls 94 hP hS dX6_share_94
        refine z_lpW (Wh := fun (x5 : Int32 × Int32 × (Nat → Int32)) => zW p l e (zR 6 131) s m ([.ref a_m, .int u1, .int u2, .int u3] : List Value).toArray below meth c Q 6 A G [(a_m, .inr (6, [.ref a_m_state, .ref a_m_readPage, .int m_toldOnce, .ref a_m_tape, .int m_taped, .int m_fault, .int m_broken, .int m_brokenAt, .int m_spot, .int m_here, .int m_token, .int m_value, .ref a_m_cuts, .ref a_m_letters, .int m_silent, .int m_greatest, .int m_moves, .int m_holders, .ref a_m_seen, .int m_seenMany, .ref a_m_pointBy, .ref a_m_isKept, .ref a_m_lanes, .ref a_m_lengths, .ref a_m_sheetCells, .int m_torn])), (a_m_state, .inl (k 0, 156, .inl x5.2.2))] [(0, .ref a_m), (1, .int u1), (2, .int u2), (3, .int u3), (4, .int x5.1), (5, .int x5.2.1)] 47 []) ?_ 1000 _ hv H locs ls hP hD hS (lv_sub hl [2, 3, 4, 5, 1, 0] rfl)
        clear h
        intro x5 o h hC6 hX7 H locs ls hP hD hS hl
        unfold p_X6_share_b47 at h
        refine lv_iload hx hb dX6_share_47 (lv_at hl 5 rfl) ?_
        refine lv_iload_n hx hb dX6_share_49 rfl (lv_at hl 2 rfl) ?_
        refine lv_icmp_ge (tgt := 85) hx hb dX6_share_50 (by decide) (fun c17 => ?_) (fun c17 => ?_)
        · have h := zit c17 h
          exact hJ8 _ (hX7 _ (zs h)) H locs ls hP hD hS (lv_sub hl [2, 3, 4] rfl)
        · have h := zif c17 h
          refine lv_iload hx hb dX6_share_53 (lv_at hl 4 rfl) ?_
          refine lv_aload_n hx hb dX6_share_55 rfl (lv_at hl 0 rfl) ?_
          refine lv_bipush (v := 104) hx hb dX6_share_56 (by decide) ?_
          obtain ⟨o11, hv, h⟩ := zb h
          refine z_goi (w2 := [(a_m, .inr (6, [.ref a_m_state, .ref a_m_readPage, .int m_toldOnce, .ref a_m_tape, .int m_taped, .int m_fault, .int m_broken, .int m_brokenAt, .int m_spot, .int m_here, .int m_token, .int m_value, .ref a_m_cuts, .ref a_m_letters, .int m_silent, .int m_greatest, .int m_moves, .int m_holders, .ref a_m_seen, .int m_seenMany, .ref a_m_pointBy, .ref a_m_isKept, .ref a_m_lanes, .ref a_m_lengths, .ref a_m_sheetCells, .int m_torn])), (a_m_state, .inl (k 0, 156, .inl x5.2.2))]) [0, 1] (va_runV (As := [.int (104 : Int32)]) (rest := [.int x5.1]) ⟨hx, hb, hml, hown, hts⟩ (c_X6_holderOn l G k tL tM sK sV a_m a_m_state a_m_readPage a_m_tape a_m_cuts a_m_letters a_m_seen a_m_pointBy a_m_isKept a_m_lanes a_m_lengths a_m_sheetCells H.size m_toldOnce m_taped m_fault m_broken m_brokenAt m_spot m_here m_token m_value m_silent m_greatest m_moves m_holders m_seenMany m_torn x5.2.2 (104 : Int32) o11 hv) (cwV 1 hts gX6_share_X6_holderOn rfl rfl rfl (by decide +kernel) ⟨Nat.le_of_ble_eq_true rfl, Nat.le_of_ble_eq_true rfl⟩) (z_preV (wc := [(a_m, .inr (6, [.ref a_m_state, .ref a_m_readPage, .int m_toldOnce, .ref a_m_tape, .int m_taped, .int m_fault, .int m_broken, .int m_brokenAt, .int m_spot, .int m_here, .int m_token, .int m_value, .ref a_m_cuts, .ref a_m_letters, .int m_silent, .int m_greatest, .int m_moves, .int m_holders, .ref a_m_seen, .int m_seenMany, .ref a_m_pointBy, .ref a_m_isKept, .ref a_m_lanes, .ref a_m_lengths, .ref a_m_sheetCells, .int m_torn])), (a_m_state, .inl (k 0, 156, .inl x5.2.2))]) [0, 1] 0 6 hK hE hA hP hD hS (by decide) rfl rfl rfl) rfl rfl hl.1 rfl (lv_room (Nat.le_of_ble_eq_true rfl)) dX6_share_58 ⟨Nat.le_refl _, Nat.le_refl _⟩) hA hP hD hS rfl rfl rfl rfl (fun H locs hP hD hS => ?_)
          refine lv_iload_n hx hb dX6_share_61 rfl (lv_at hl 1 rfl) ?_
          have hJ12 : ∀ (y13 : Int32), y13 = (if o11 = u1 then (1 : Int32) else (0 : Int32)) → zW p l e (zR 6 131) s m ([.ref a_m, .int u1, .int u2, .int u3] : List Value).toArray below meth c Q 6 A G [(a_m, .inr (6, [.ref a_m_state, .ref a_m_readPage, .int m_toldOnce, .ref a_m_tape, .int m_taped, .int m_fault, .int m_broken, .int m_brokenAt, .int m_spot, .int m_here, .int m_token, .int m_value, .ref a_m_cuts, .ref a_m_letters, .int m_silent, .int m_greatest, .int m_moves, .int m_holders, .ref a_m_seen, .int m_seenMany, .ref a_m_pointBy, .ref a_m_isKept, .ref a_m_lanes, .ref a_m_lengths, .ref a_m_sheetCells, .int m_torn])), (a_m_state, .inl (k 0, 156, .inl x5.2.2))] [(0, .ref a_m), (1, .int u1), (2, .int u2), (3, .int u3), (5, .int x5.2.1)] 70 [.int y13, .int x5.1] := by
            intro y13 q14
            subst q14
            intro H locs ls hP hD hS hl
            refine lv_iadd hx hb dX6_share_70 ?_
            refine lv_istore (lv' := [(4, .int (x5.1 + (if o11 = u1 then (1 : Int32) else (0 : Int32)))), (0, .ref a_m), (1, .int u1), (2, .int u2), (3, .int u3), (5, .int x5.2.1)]) hx hb dX6_share_71 hl (by decide) rfl (fun ls hl => ?_)
            refine lv_aload_n hx hb dX6_share_73 rfl (lv_at hl 1 rfl) ?_
            refine lv_bipush (v := 104) hx hb dX6_share_74 (by decide) ?_
            obtain ⟨o16, hv, h⟩ := zb h
            refine z_gov (w2 := [(a_m, .inr (6, [.ref a_m_state, .ref a_m_readPage, .int m_toldOnce, .ref a_m_tape, .int m_taped, .int m_fault, .int m_broken, .int m_brokenAt, .int m_spot, .int m_here, .int m_token, .int m_value, .ref a_m_cuts, .ref a_m_letters, .int m_silent, .int m_greatest, .int m_moves, .int m_holders, .ref a_m_seen, .int m_seenMany, .ref a_m_pointBy, .ref a_m_isKept, .ref a_m_lanes, .ref a_m_lengths, .ref a_m_sheetCells, .int m_torn])), (a_m_state, .inl (k 0, 156, .inl o16))]) [0, 1] (va_runV (As := [.int (104 : Int32)]) (rest := []) ⟨hx, hb, hml, hown, hts⟩ (c_X6_yearOn l G k tL tM sK sV a_m a_m_state a_m_readPage a_m_tape a_m_cuts a_m_letters a_m_seen a_m_pointBy a_m_isKept a_m_lanes a_m_lengths a_m_sheetCells H.size m_toldOnce m_taped m_fault m_broken m_brokenAt m_spot m_here m_token m_value m_silent m_greatest m_moves m_holders m_seenMany m_torn x5.2.2 (104 : Int32) o16 hv) (cwV 1 hts gX6_share_X6_yearOn rfl rfl rfl (by decide +kernel) ⟨Nat.le_of_ble_eq_true rfl, Nat.le_of_ble_eq_true rfl⟩) (z_preV (wc := [(a_m, .inr (6, [.ref a_m_state, .ref a_m_readPage, .int m_toldOnce, .ref a_m_tape, .int m_taped, .int m_fault, .int m_broken, .int m_brokenAt, .int m_spot, .int m_here, .int m_token, .int m_value, .ref a_m_cuts, .ref a_m_letters, .int m_silent, .int m_greatest, .int m_moves, .int m_holders, .ref a_m_seen, .int m_seenMany, .ref a_m_pointBy, .ref a_m_isKept, .ref a_m_lanes, .ref a_m_lengths, .ref a_m_sheetCells, .int m_torn])), (a_m_state, .inl (k 0, 156, .inl x5.2.2))]) [0, 1] 0 6 hK hE hA hP hD hS (by decide) rfl rfl rfl) rfl rfl hl.1 rfl (lv_room (Nat.le_of_ble_eq_true rfl)) dX6_share_76 ⟨Nat.le_refl _, Nat.le_refl _⟩) hA hP hD hS rfl rfl rfl rfl (fun H locs hP hD hS => ?_)
            refine lv_iinc (v := x5.2.1 + (1 : Int32)) (lv' := [(5, .int (x5.2.1 + (1 : Int32))), (4, .int (x5.1 + (if o11 = u1 then (1 : Int32) else (0 : Int32)))), (0, .ref a_m), (1, .int u1), (2, .int u2), (3, .int u3)]) hx hb dX6_share_79 hl (k := 5) rfl rfl (by decide) rfl (fun ls hl => ?_)
            refine lv_goto (tgt := 47) hx hb dX6_share_82 (by decide) ?_
            exact hC6 _ (zs h) H locs ls hP hD hS (lv_sub hl [2, 3, 4, 5, 1, 0] rfl)
          refine lv_icmp_ne (tgt := 69) hx hb dX6_share_62 (by decide) (fun c15 => ?_) (fun c15 => ?_)
          · refine lv_iconst (v := 0) hx hb dX6_share_69 (by decide) ?_
            exact hJ12 _ (if_neg c15).symm H locs ls hP hD hS (lv_sub hl [0, 1, 2, 3, 5] rfl)
          · refine lv_iconst (v := 1) hx hb dX6_share_65 (by decide) ?_
            refine lv_goto (tgt := 70) hx hb dX6_share_66 (by decide) ?_
            exact hJ12 _ (if_pos c15).symm H locs ls hP hD hS (lv_sub hl [0, 1, 2, 3, 5] rfl)
      · have h := zit c19 h
        refine lv_ldc2 hx hb hown (hts (.constantLong RX6 208 (-1)) (List.mem_of_getElem? (i := 2) rfl)) dX6_share_30 ?_
        have hr := (zs h)
        subst hr
        exact hret H locs ls 33 hP hS dX6_share_33
set_option maxHeartbeats 4000000 in
set_option maxRecDepth 100000 in
theorem c_X6_turn (l : Launch) (G : va_G) (k : Nat → ClassId) (tL tM : Nat) (sK sV : Nat → Nat) (a_m : Nat) (a_m_state : Nat) (a_m_readPage : Nat) (a_m_tape : Nat) (a_m_cuts : Nat) (a_m_letters : Nat) (a_m_seen : Nat) (a_m_pointBy : Nat) (a_m_isKept : Nat) (a_m_lanes : Nat) (a_m_lengths : Nat) (a_m_sheetCells : Nat) (sz : Nat) (m_toldOnce : Int32) (m_taped : Int32) (m_fault : Int32) (m_broken : Int32) (m_brokenAt : Int32) (m_spot : Int32) (m_here : Int32) (m_token : Int32) (m_value : Int32) (m_silent : Int32) (m_greatest : Int32) (m_moves : Int32) (m_holders : Int32) (m_seenMany : Int32) (m_torn : Int32) (m_state : Nat → Int32) (out : Int32 × (Nat → Int32)) (h : p_X6_turn m_silent m_state = some out) : zMi l yX6_turn wsX6_turn 6 131 G k tL tM sK sV [.ref a_m] [(a_m, .inr (6, [.ref a_m_state, .ref a_m_readPage, .int m_toldOnce, .ref a_m_tape, .int m_taped, .int m_fault, .int m_broken, .int m_brokenAt, .int m_spot, .int m_here, .int m_token, .int m_value, .ref a_m_cuts, .ref a_m_letters, .int m_silent, .int m_greatest, .int m_moves, .int m_holders, .ref a_m_seen, .int m_seenMany, .ref a_m_pointBy, .ref a_m_isKept, .ref a_m_lanes, .ref a_m_lengths, .ref a_m_sheetCells, .int m_torn])), (a_m_state, .inl (k 0, 156, .inl m_state))] [(a_m, .inr (6, [.ref a_m_state, .ref a_m_readPage, .int m_toldOnce, .ref a_m_tape, .int m_taped, .int m_fault, .int m_broken, .int m_brokenAt, .int m_spot, .int m_here, .int m_token, .int m_value, .ref a_m_cuts, .ref a_m_letters, .int m_silent, .int m_greatest, .int m_moves, .int m_holders, .ref a_m_seen, .int m_seenMany, .ref a_m_pointBy, .ref a_m_isKept, .ref a_m_lanes, .ref a_m_lengths, .ref a_m_sheetCells, .int m_torn])), (a_m_state, .inl (k 0, 156, .inl out.2))] out.1 sz := by
  refine z_meti (cc := cX6_turn) (maxL := 3) (by decide) rfl (Nat.le_of_ble_eq_true rfl) ?_
  intro p e s m below meth c A Q H locs ls hx hb hml hts hown hA hK hE hret hP hD hS hl
  have hown : s.vm.findClass RX6 = some m.cls := hown
  have hl : lv_has ls 3 [(0, .ref a_m)] := hl
  unfold p_X6_turn at h
  refine lv_aload_n hx hb dX6_turn_0 rfl (lv_at hl 0 rfl) ?_
  refine lv_iconst (v := 0) hx hb dX6_turn_1 (by decide) ?_
  obtain ⟨o1, hv, h⟩ := zb h
  refine z_goi (w2 := [(a_m, .inr (6, [.ref a_m_state, .ref a_m_readPage, .int m_toldOnce, .ref a_m_tape, .int m_taped, .int m_fault, .int m_broken, .int m_brokenAt, .int m_spot, .int m_here, .int m_token, .int m_value, .ref a_m_cuts, .ref a_m_letters, .int m_silent, .int m_greatest, .int m_moves, .int m_holders, .ref a_m_seen, .int m_seenMany, .ref a_m_pointBy, .ref a_m_isKept, .ref a_m_lanes, .ref a_m_lengths, .ref a_m_sheetCells, .int m_torn])), (a_m_state, .inl (k 0, 156, .inl m_state))]) [0, 1] (va_runV (As := [.int (0 : Int32)]) (rest := []) ⟨hx, hb, hml, hown, hts⟩ (c_X6_holderOn l G k tL tM sK sV a_m a_m_state a_m_readPage a_m_tape a_m_cuts a_m_letters a_m_seen a_m_pointBy a_m_isKept a_m_lanes a_m_lengths a_m_sheetCells H.size m_toldOnce m_taped m_fault m_broken m_brokenAt m_spot m_here m_token m_value m_silent m_greatest m_moves m_holders m_seenMany m_torn m_state (0 : Int32) o1 hv) (cwV 1 hts gX6_turn_X6_holderOn rfl rfl rfl (by decide +kernel) ⟨Nat.le_of_ble_eq_true rfl, Nat.le_of_ble_eq_true rfl⟩) (z_preV (wc := [(a_m, .inr (6, [.ref a_m_state, .ref a_m_readPage, .int m_toldOnce, .ref a_m_tape, .int m_taped, .int m_fault, .int m_broken, .int m_brokenAt, .int m_spot, .int m_here, .int m_token, .int m_value, .ref a_m_cuts, .ref a_m_letters, .int m_silent, .int m_greatest, .int m_moves, .int m_holders, .ref a_m_seen, .int m_seenMany, .ref a_m_pointBy, .ref a_m_isKept, .ref a_m_lanes, .ref a_m_lengths, .ref a_m_sheetCells, .int m_torn])), (a_m_state, .inl (k 0, 156, .inl m_state))]) [0, 1] 0 6 hK hE hA hP hD hS (by decide) rfl rfl rfl) rfl rfl hl.1 rfl (lv_room (Nat.le_of_ble_eq_true rfl)) dX6_turn_2 ⟨Nat.le_refl _, Nat.le_refl _⟩) hA hP hD hS rfl rfl rfl rfl (fun H locs hP hD hS => ?_)
  refine lv_istore_n (lv' := [(1, .int o1), (0, .ref a_m)]) hx hb dX6_turn_5 rfl hl (by decide) rfl (fun ls hl => ?_)
  refine lv_aload_n hx hb dX6_turn_6 rfl (lv_at hl 1 rfl) ?_
  refine lv_iconst (v := 0) hx hb dX6_turn_7 (by decide) ?_
  refine lv_bipush (v := 104) hx hb dX6_turn_8 (by decide) ?_
  obtain ⟨o2, hv, h⟩ := zb h
  refine z_gov (w2 := [(a_m, .inr (6, [.ref a_m_state, .ref a_m_readPage, .int m_toldOnce, .ref a_m_tape, .int m_taped, .int m_fault, .int m_broken, .int m_brokenAt, .int m_spot, .int m_here, .int m_token, .int m_value, .ref a_m_cuts, .ref a_m_letters, .int m_silent, .int m_greatest, .int m_moves, .int m_holders, .ref a_m_seen, .int m_seenMany, .ref a_m_pointBy, .ref a_m_isKept, .ref a_m_lanes, .ref a_m_lengths, .ref a_m_sheetCells, .int m_torn])), (a_m_state, .inl (k 0, 156, .inl o2))]) [0, 1] (va_runV (As := [.int (0 : Int32), .int (104 : Int32)]) (rest := []) ⟨hx, hb, hml, hown, hts⟩ (c_X6_copies l G k tL tM sK sV a_m a_m_state a_m_readPage a_m_tape a_m_cuts a_m_letters a_m_seen a_m_pointBy a_m_isKept a_m_lanes a_m_lengths a_m_sheetCells H.size m_toldOnce m_taped m_fault m_broken m_brokenAt m_spot m_here m_token m_value m_silent m_greatest m_moves m_holders m_seenMany m_torn m_state (0 : Int32) (104 : Int32) o2 hv) (cwV 2 hts gX6_turn_X6_copies rfl rfl rfl (by decide +kernel) ⟨Nat.le_of_ble_eq_true rfl, Nat.le_of_ble_eq_true rfl⟩) (z_preV (wc := [(a_m, .inr (6, [.ref a_m_state, .ref a_m_readPage, .int m_toldOnce, .ref a_m_tape, .int m_taped, .int m_fault, .int m_broken, .int m_brokenAt, .int m_spot, .int m_here, .int m_token, .int m_value, .ref a_m_cuts, .ref a_m_letters, .int m_silent, .int m_greatest, .int m_moves, .int m_holders, .ref a_m_seen, .int m_seenMany, .ref a_m_pointBy, .ref a_m_isKept, .ref a_m_lanes, .ref a_m_lengths, .ref a_m_sheetCells, .int m_torn])), (a_m_state, .inl (k 0, 156, .inl m_state))]) [0, 1] 0 6 hK hE hA hP hD hS (by decide) rfl rfl rfl) rfl rfl hl.1 rfl (lv_room (Nat.le_of_ble_eq_true rfl)) dX6_turn_10 ⟨Nat.le_refl _, Nat.le_refl _⟩) hA hP hD hS rfl rfl rfl rfl (fun H locs hP hD hS => ?_)
  refine lv_iconst (v := 1) hx hb dX6_turn_13 (by decide) ?_
  refine lv_istore_n (lv' := [(2, .int (1 : Int32)), (1, .int o1), (0, .ref a_m)]) hx hb dX6_turn_14 rfl hl (by decide) rfl (fun ls hl => ?_)
  obtain ⟨e8, hv, h⟩ := zb h
  have hJ6 : ∀ (x : Int32 × (Nat → Int32)), .inl x = e8 → x = out := fun x hz => (zs (zpeel_0_2 hz h))
  have hJ7 : ∀ (v9 : (Nat → Int32)), .inr v9 = e8 → zW p l e (zR 6 131) s m ([.ref a_m] : List Value).toArray below meth c Q 3 A G [(a_m, .inr (6, [.ref a_m_state, .ref a_m_readPage, .int m_toldOnce, .ref a_m_tape, .int m_taped, .int m_fault, .int m_broken, .int m_brokenAt, .int m_spot, .int m_here, .int m_token, .int m_value, .ref a_m_cuts, .ref a_m_letters, .int m_silent, .int m_greatest, .int m_moves, .int m_holders, .ref a_m_seen, .int m_seenMany, .ref a_m_pointBy, .ref a_m_isKept, .ref a_m_lanes, .ref a_m_lengths, .ref a_m_sheetCells, .int m_torn])), (a_m_state, .inl (k 0, 156, .inl v9))] [] 45 [] := by
    intro v9 hz
    have h := (zpeel_1_2 hz h)
    intro H locs ls hP hD hS hl
    refine lv_bipush (v := (-4)) hx hb dX6_turn_45 (by decide) ?_
    have hr := (zs h)
    subst hr
    exact hret H locs ls 47 hP hS dX6_turn_47
  refine z_lpW (Wh := fun (x3 : Int32 × (Nat → Int32)) => zW p l e (zR 6 131) s m ([.ref a_m] : List Value).toArray below meth c Q 3 A G [(a_m, .inr (6, [.ref a_m_state, .ref a_m_readPage, .int m_toldOnce, .ref a_m_tape, .int m_taped, .int m_fault, .int m_broken, .int m_brokenAt, .int m_spot, .int m_here, .int m_token, .int m_value, .ref a_m_cuts, .ref a_m_letters, .int m_silent, .int m_greatest, .int m_moves, .int m_holders, .ref a_m_seen, .int m_seenMany, .ref a_m_pointBy, .ref a_m_isKept, .ref a_m_lanes, .ref a_m_lengths, .ref a_m_sheetCells, .int m_torn])), (a_m_state, .inl (k 0, 156, .inl x3.2))] [(0, .ref a_m), (1, .int o1), (2, .int x3.1)] 15 []) ?_ 1000 _ hv H locs ls hP hD hS (lv_sub hl [2, 1, 0] rfl)
  clear h
  intro x3 o h hC4 hX5 H locs ls hP hD hS hl
  unfold p_X6_turn_b15 at h
  refine lv_iload_n hx hb dX6_turn_15 rfl (lv_at hl 2 rfl) ?_
  refine lv_bipush (v := 60) hx hb dX6_turn_16 (by decide) ?_
  refine lv_icmp_gt (tgt := 45) hx hb dX6_turn_18 (by decide) (fun c13 => ?_) (fun c13 => ?_)
  · have h := zit c13 h
    exact hJ7 _ (hX5 _ (zs h)) H locs ls hP hD hS (lv_sub hl [] rfl)
  · have h := zif c13 h
    refine lv_aload_n hx hb dX6_turn_21 rfl (lv_at hl 0 rfl) ?_
    refine lv_bipush (v := 104) hx hb dX6_turn_22 (by decide) ?_
    obtain ⟨o10, hv, h⟩ := zb h
    refine z_gov (w2 := [(a_m, .inr (6, [.ref a_m_state, .ref a_m_readPage, .int m_toldOnce, .ref a_m_tape, .int m_taped, .int m_fault, .int m_broken, .int m_brokenAt, .int m_spot, .int m_here, .int m_token, .int m_value, .ref a_m_cuts, .ref a_m_letters, .int m_silent, .int m_greatest, .int m_moves, .int m_holders, .ref a_m_seen, .int m_seenMany, .ref a_m_pointBy, .ref a_m_isKept, .ref a_m_lanes, .ref a_m_lengths, .ref a_m_sheetCells, .int m_torn])), (a_m_state, .inl (k 0, 156, .inl o10))]) [0, 1] (va_runV (As := [.int (104 : Int32)]) (rest := []) ⟨hx, hb, hml, hown, hts⟩ (c_X6_yearOn l G k tL tM sK sV a_m a_m_state a_m_readPage a_m_tape a_m_cuts a_m_letters a_m_seen a_m_pointBy a_m_isKept a_m_lanes a_m_lengths a_m_sheetCells H.size m_toldOnce m_taped m_fault m_broken m_brokenAt m_spot m_here m_token m_value m_silent m_greatest m_moves m_holders m_seenMany m_torn x3.2 (104 : Int32) o10 hv) (cwV 1 hts gX6_turn_X6_yearOn rfl rfl rfl (by decide +kernel) ⟨Nat.le_of_ble_eq_true rfl, Nat.le_of_ble_eq_true rfl⟩) (z_preV (wc := [(a_m, .inr (6, [.ref a_m_state, .ref a_m_readPage, .int m_toldOnce, .ref a_m_tape, .int m_taped, .int m_fault, .int m_broken, .int m_brokenAt, .int m_spot, .int m_here, .int m_token, .int m_value, .ref a_m_cuts, .ref a_m_letters, .int m_silent, .int m_greatest, .int m_moves, .int m_holders, .ref a_m_seen, .int m_seenMany, .ref a_m_pointBy, .ref a_m_isKept, .ref a_m_lanes, .ref a_m_lengths, .ref a_m_sheetCells, .int m_torn])), (a_m_state, .inl (k 0, 156, .inl x3.2))]) [0, 1] 0 6 hK hE hA hP hD hS (by decide) rfl rfl rfl) rfl rfl hl.1 rfl (lv_room (Nat.le_of_ble_eq_true rfl)) dX6_turn_24 ⟨Nat.le_refl _, Nat.le_refl _⟩) hA hP hD hS rfl rfl rfl rfl (fun H locs hP hD hS => ?_)
    refine lv_aload_n hx hb dX6_turn_27 rfl (lv_at hl 0 rfl) ?_
    refine lv_bipush (v := 104) hx hb dX6_turn_28 (by decide) ?_
    obtain ⟨o11, hv, h⟩ := zb h
    refine z_goi (w2 := [(a_m, .inr (6, [.ref a_m_state, .ref a_m_readPage, .int m_toldOnce, .ref a_m_tape, .int m_taped, .int m_fault, .int m_broken, .int m_brokenAt, .int m_spot, .int m_here, .int m_token, .int m_value, .ref a_m_cuts, .ref a_m_letters, .int m_silent, .int m_greatest, .int m_moves, .int m_holders, .ref a_m_seen, .int m_seenMany, .ref a_m_pointBy, .ref a_m_isKept, .ref a_m_lanes, .ref a_m_lengths, .ref a_m_sheetCells, .int m_torn])), (a_m_state, .inl (k 0, 156, .inl o10))]) [0, 1] (va_runV (As := [.int (104 : Int32)]) (rest := []) ⟨hx, hb, hml, hown, hts⟩ (c_X6_holderOn l G k tL tM sK sV a_m a_m_state a_m_readPage a_m_tape a_m_cuts a_m_letters a_m_seen a_m_pointBy a_m_isKept a_m_lanes a_m_lengths a_m_sheetCells H.size m_toldOnce m_taped m_fault m_broken m_brokenAt m_spot m_here m_token m_value m_silent m_greatest m_moves m_holders m_seenMany m_torn o10 (104 : Int32) o11 hv) (cwV 1 hts gX6_turn_X6_holderOn rfl rfl rfl (by decide +kernel) ⟨Nat.le_of_ble_eq_true rfl, Nat.le_of_ble_eq_true rfl⟩) (z_preV (wc := [(a_m, .inr (6, [.ref a_m_state, .ref a_m_readPage, .int m_toldOnce, .ref a_m_tape, .int m_taped, .int m_fault, .int m_broken, .int m_brokenAt, .int m_spot, .int m_here, .int m_token, .int m_value, .ref a_m_cuts, .ref a_m_letters, .int m_silent, .int m_greatest, .int m_moves, .int m_holders, .ref a_m_seen, .int m_seenMany, .ref a_m_pointBy, .ref a_m_isKept, .ref a_m_lanes, .ref a_m_lengths, .ref a_m_sheetCells, .int m_torn])), (a_m_state, .inl (k 0, 156, .inl o10))]) [0, 1] 0 6 hK hE hA hP hD hS (by decide) rfl rfl rfl) rfl rfl hl.1 rfl (lv_room (Nat.le_of_ble_eq_true rfl)) dX6_turn_30 ⟨Nat.le_refl _, Nat.le_refl _⟩) hA hP hD hS rfl rfl rfl rfl (fun H locs hP hD hS => ?_)
    refine lv_iload_n hx hb dX6_turn_33 rfl (lv_at hl 1 rfl) ?_
    refine lv_icmp_eq (tgt := 39) hx hb dX6_turn_34 (by decide) (fun c12 => ?_) (fun c12 => ?_)
    · have h := zit c12 h
      refine lv_iinc (v := x3.1 + (1 : Int32)) (lv' := [(2, .int (x3.1 + (1 : Int32))), (0, .ref a_m), (1, .int o1)]) hx hb dX6_turn_39 hl (k := 2) rfl rfl (by decide) rfl (fun ls hl => ?_)
      refine lv_goto (tgt := 15) hx hb dX6_turn_42 (by decide) ?_
      exact hC4 _ (zs h) H locs ls hP hD hS (lv_sub hl [1, 2, 0] rfl)
    · have h := zif c12 h
      refine lv_iload_n hx hb dX6_turn_37 rfl (lv_at hl 2 rfl) ?_
      have hr := (hJ6 _ (hX5 _ (zs h)))
      subst hr
      exact hret H locs ls 38 hP hS dX6_turn_38
theorem iw_X6_isFallenBehind_X6 : ∀ w ∈ wsX60, w ∈ wsX6_isFallenBehind := fun _ h => List.mem_cons_of_mem _ (List.mem_append_right _ h)
set_option maxHeartbeats 4000000 in
set_option maxRecDepth 100000 in
theorem c_X6_isFallenBehind (l : Launch) (G : va_G) (k : Nat → ClassId) (tL tM : Nat) (sK sV : Nat → Nat) (a_m : Nat) (a_m_state : Nat) (a_m_readPage : Nat) (a_m_tape : Nat) (a_m_cuts : Nat) (a_m_letters : Nat) (a_m_seen : Nat) (a_m_pointBy : Nat) (a_m_isKept : Nat) (a_m_lanes : Nat) (a_m_lengths : Nat) (a_m_sheetCells : Nat) (sz : Nat) (m_toldOnce : Int32) (m_taped : Int32) (m_fault : Int32) (m_broken : Int32) (m_brokenAt : Int32) (m_spot : Int32) (m_here : Int32) (m_token : Int32) (m_value : Int32) (m_silent : Int32) (m_greatest : Int32) (m_moves : Int32) (m_holders : Int32) (m_seenMany : Int32) (m_torn : Int32) (m_state : Nat → Int32) (u1 : Int32) (out : Int32 × Int32 × Int32 × Int32 × (Nat → Int32)) (h : p_X6_isFallenBehind u1 m_silent m_state = some out) : zMi l yX6_isFallenBehind wsX6_isFallenBehind 7 156 G k tL tM sK sV [.ref a_m, .int u1] [(a_m, .inr (6, [.ref a_m_state, .ref a_m_readPage, .int m_toldOnce, .ref a_m_tape, .int m_taped, .int m_fault, .int m_broken, .int m_brokenAt, .int m_spot, .int m_here, .int m_token, .int m_value, .ref a_m_cuts, .ref a_m_letters, .int m_silent, .int m_greatest, .int m_moves, .int m_holders, .ref a_m_seen, .int m_seenMany, .ref a_m_pointBy, .ref a_m_isKept, .ref a_m_lanes, .ref a_m_lengths, .ref a_m_sheetCells, .int m_torn])), (a_m_state, .inl (k 0, 156, .inl m_state))] [(a_m, .inr (6, [.ref a_m_state, .ref a_m_readPage, .int m_toldOnce, .ref a_m_tape, .int m_taped, .int m_fault, .int m_broken, .int m_brokenAt, .int m_spot, .int m_here, .int m_token, .int m_value, .ref a_m_cuts, .ref a_m_letters, .int m_silent, .int out.2.1, .int out.2.2.1, .int out.2.2.2.1, .ref a_m_seen, .int m_seenMany, .ref a_m_pointBy, .ref a_m_isKept, .ref a_m_lanes, .ref a_m_lengths, .ref a_m_sheetCells, .int m_torn])), (a_m_state, .inl (k 0, 156, .inl out.2.2.2.2))] out.1 sz := by
  refine z_metz (cc := cX6_isFallenBehind) (maxL := 2) (by decide) rfl (Nat.le_of_ble_eq_true rfl) ?_
  intro p e s m below meth c A Q H locs ls hx hb hml hts hown hA hK hE hret hP hD hS hl
  have hown : s.vm.findClass RX6 = some m.cls := hown
  have hl : lv_has ls 2 [(0, .ref a_m), (1, .int u1)] := hl
  unfold p_X6_isFallenBehind at h
  refine lv_aload_n hx hb dX6_isFallenBehind_0 rfl (lv_at hl 0 rfl) ?_
  refine lv_iload_n hx hb dX6_isFallenBehind_1 rfl (lv_at hl 1 rfl) ?_
  refine lv_bipush (v := 60) hx hb dX6_isFallenBehind_2 (by decide) ?_
  obtain ⟨o1, hv, h⟩ := zb h
  refine z_gov (w2 := [(a_m, .inr (6, [.ref a_m_state, .ref a_m_readPage, .int m_toldOnce, .ref a_m_tape, .int m_taped, .int m_fault, .int m_broken, .int m_brokenAt, .int m_spot, .int m_here, .int m_token, .int m_value, .ref a_m_cuts, .ref a_m_letters, .int m_silent, .int o1.1, .int o1.2.1, .int o1.2.2.1, .ref a_m_seen, .int m_seenMany, .ref a_m_pointBy, .ref a_m_isKept, .ref a_m_lanes, .ref a_m_lengths, .ref a_m_sheetCells, .int m_torn])), (a_m_state, .inl (k 0, 156, .inl o1.2.2.2))]) [0, 1] (va_runV (As := [.int u1, .int (60 : Int32)]) (rest := []) ⟨hx, hb, hml, hown, hts⟩ (c_X6_yearsGo l G k tL tM sK sV a_m a_m_state a_m_readPage a_m_tape a_m_cuts a_m_letters a_m_seen a_m_pointBy a_m_isKept a_m_lanes a_m_lengths a_m_sheetCells H.size m_toldOnce m_taped m_fault m_broken m_brokenAt m_spot m_here m_token m_value m_silent m_greatest m_moves m_holders m_seenMany m_torn m_state u1 (60 : Int32) o1 hv) (cwV 2 hts gX6_isFallenBehind_X6_yearsGo rfl rfl rfl (by decide +kernel) ⟨Nat.le_of_ble_eq_true rfl, Nat.le_of_ble_eq_true rfl⟩) (z_preV (wc := [(a_m, .inr (6, [.ref a_m_state, .ref a_m_readPage, .int m_toldOnce, .ref a_m_tape, .int m_taped, .int m_fault, .int m_broken, .int m_brokenAt, .int m_spot, .int m_here, .int m_token, .int m_value, .ref a_m_cuts, .ref a_m_letters, .int m_silent, .int m_greatest, .int m_moves, .int m_holders, .ref a_m_seen, .int m_seenMany, .ref a_m_pointBy, .ref a_m_isKept, .ref a_m_lanes, .ref a_m_lengths, .ref a_m_sheetCells, .int m_torn])), (a_m_state, .inl (k 0, 156, .inl m_state))]) [0, 1] 0 6 hK hE hA hP hD hS (by decide) rfl rfl rfl) rfl rfl hl.1 rfl (lv_room (Nat.le_of_ble_eq_true rfl)) dX6_isFallenBehind_4 ⟨Nat.le_refl _, Nat.le_refl _⟩) hA hP hD hS rfl rfl rfl rfl (fun H locs hP hD hS => ?_)
  refine lv_aload_n hx hb dX6_isFallenBehind_7 rfl (lv_at hl 0 rfl) ?_
  refine va_get (D := G) (ci := 6) (v := .int o1.1) (C := RX6) (T := TX6) (N := 26) hx hb hts iw_X6_isFallenBehind_X6 hown hK hP 0 rfl rfl 15 (by decide) (hts (.fieldLink RX6 191 "SpireLeanModel" "greatest" "I") (List.mem_of_getElem? (i := 1) rfl)) (fun _ h9 => h9) rfl dX6_isFallenBehind_8 ?_
  refine lv_aload_n hx hb dX6_isFallenBehind_11 rfl (lv_at hl 0 rfl) ?_
  refine va_get (D := G) (ci := 6) (v := .ref a_m_state) (C := RX6) (T := TX6) (N := 26) hx hb hts iw_X6_isFallenBehind_X6 hown hK hP 0 rfl rfl 0 (by decide) (hts (.fieldLink RX6 7 "SpireLeanModel" "state" "[I") (List.mem_of_getElem? (i := 2) rfl)) (fun _ h9 => h9) rfl dX6_isFallenBehind_12 ?_
  refine lv_iload_n hx hb dX6_isFallenBehind_15 rfl (lv_at hl 1 rfl) ?_
  refine lv_bipush (v := 24) hx hb dX6_isFallenBehind_16 (by decide) ?_
  refine lv_iadd hx hb dX6_isFallenBehind_18 ?_
  obtain ⟨v2, hv, h⟩ := zb h
  refine z_iald hx hb hK hP 1 0 rfl rfl hv dX6_isFallenBehind_19 ?_
  refine lv_bipush (v := 9) hx hb dX6_isFallenBehind_20 (by decide) ?_
  refine lv_iadd hx hb dX6_isFallenBehind_22 ?_
  refine lv_icmp_le (tgt := 30) hx hb dX6_isFallenBehind_23 (by decide) (fun c3 => ?_) (fun c3 => ?_)
  · have h := zit c3 h
    refine lv_iconst (v := 0) hx hb dX6_isFallenBehind_30 (by decide) ?_
    have hr := (zs h)
    subst hr
    exact hret H locs ls 31 (Or.inl rfl) hP hS dX6_isFallenBehind_31
  · have h := zif c3 h
    refine lv_iconst (v := 1) hx hb dX6_isFallenBehind_26 (by decide) ?_
    refine lv_goto (tgt := 31) hx hb dX6_isFallenBehind_27 (by decide) ?_
    have hr := (zs h)
    subst hr
    exact hret H locs ls 31 (Or.inr rfl) hP hS dX6_isFallenBehind_31
theorem iw_X6_need_X6 : ∀ w ∈ wsX60, w ∈ wsX6_need := fun _ h => List.mem_cons_of_mem _ (List.mem_append_right _ h)
set_option maxHeartbeats 4000000 in
set_option maxRecDepth 100000 in
theorem c_X6_need (l : Launch) (G : va_G) (k : Nat → ClassId) (tL tM : Nat) (sK sV : Nat → Nat) (a_m : Nat) (a_m_state : Nat) (a_m_readPage : Nat) (a_m_tape : Nat) (a_m_cuts : Nat) (a_m_letters : Nat) (a_m_seen : Nat) (a_m_pointBy : Nat) (a_m_isKept : Nat) (a_m_lanes : Nat) (a_m_lengths : Nat) (a_m_sheetCells : Nat) (sz : Nat) (m_toldOnce : Int32) (m_taped : Int32) (m_fault : Int32) (m_broken : Int32) (m_brokenAt : Int32) (m_spot : Int32) (m_here : Int32) (m_token : Int32) (m_value : Int32) (m_silent : Int32) (m_greatest : Int32) (m_moves : Int32) (m_holders : Int32) (m_seenMany : Int32) (m_torn : Int32) (m_state : Nat → Int32) (out : Int32 × Int32 × Int32 × Int32 × (Nat → Int32)) (h : p_X6_need m_silent m_greatest m_moves m_holders m_state = some out) : zMi l yX6_need wsX6_need 8 177 G k tL tM sK sV [.ref a_m] [(a_m, .inr (6, [.ref a_m_state, .ref a_m_readPage, .int m_toldOnce, .ref a_m_tape, .int m_taped, .int m_fault, .int m_broken, .int m_brokenAt, .int m_spot, .int m_here, .int m_token, .int m_value, .ref a_m_cuts, .ref a_m_letters, .int m_silent, .int m_greatest, .int m_moves, .int m_holders, .ref a_m_seen, .int m_seenMany, .ref a_m_pointBy, .ref a_m_isKept, .ref a_m_lanes, .ref a_m_lengths, .ref a_m_sheetCells, .int m_torn])), (a_m_state, .inl (k 0, 156, .inl m_state))] [(a_m, .inr (6, [.ref a_m_state, .ref a_m_readPage, .int m_toldOnce, .ref a_m_tape, .int m_taped, .int m_fault, .int m_broken, .int m_brokenAt, .int m_spot, .int m_here, .int m_token, .int m_value, .ref a_m_cuts, .ref a_m_letters, .int m_silent, .int out.2.1, .int out.2.2.1, .int out.2.2.2.1, .ref a_m_seen, .int m_seenMany, .ref a_m_pointBy, .ref a_m_isKept, .ref a_m_lanes, .ref a_m_lengths, .ref a_m_sheetCells, .int m_torn])), (a_m_state, .inl (k 0, 156, .inl out.2.2.2.2))] out.1 sz := by
  refine z_meti (cc := cX6_need) (maxL := 2) (by decide) rfl (Nat.le_of_ble_eq_true rfl) ?_
  intro p e s m below meth c A Q H locs ls hx hb hml hts hown hA hK hE hret hP hD hS hl
  have hown : s.vm.findClass RX6 = some m.cls := hown
  have hl : lv_has ls 2 [(0, .ref a_m)] := hl
  unfold p_X6_need at h
  refine lv_iconst (v := 0) hx hb dX6_need_0 (by decide) ?_
  refine lv_istore_n (lv' := [(1, .int (0 : Int32)), (0, .ref a_m)]) hx hb dX6_need_1 rfl hl (by decide) rfl (fun ls hl => ?_)
  obtain ⟨e6, hv, h⟩ := zb h
  have hJ4 : ∀ (x : Int32 × Int32 × Int32 × Int32 × (Nat → Int32)), .inl x = e6 → x = out := fun x hz => (zs (zpeel_0_2 hz h))
  have hJ5 : ∀ (v7 : Int32 × Int32 × Int32 × (Nat → Int32)), .inr v7 = e6 → zW p l e (zR 8 177) s m ([.ref a_m] : List Value).toArray below meth c Q 2 A G [(a_m, .inr (6, [.ref a_m_state, .ref a_m_readPage, .int m_toldOnce, .ref a_m_tape, .int m_taped, .int m_fault, .int m_broken, .int m_brokenAt, .int m_spot, .int m_here, .int m_token, .int m_value, .ref a_m_cuts, .ref a_m_letters, .int m_silent, .int v7.1, .int v7.2.1, .int v7.2.2.1, .ref a_m_seen, .int m_seenMany, .ref a_m_pointBy, .ref a_m_isKept, .ref a_m_lanes, .ref a_m_lengths, .ref a_m_sheetCells, .int m_torn])), (a_m_state, .inl (k 0, 156, .inl v7.2.2.2))] [] 46 [] := by
    intro v7 hz
    have h := (zpeel_1_2 hz h)
    intro H locs ls hP hD hS hl
    refine lv_bipush (v := (-4)) hx hb dX6_need_46 (by decide) ?_
    have hr := (zs h)
    subst hr
    exact hret H locs ls 48 hP hS dX6_need_48
  refine z_lpW (Wh := fun (x1 : Int32 × Int32 × Int32 × Int32 × (Nat → Int32)) => zW p l e (zR 8 177) s m ([.ref a_m] : List Value).toArray below meth c Q 2 A G [(a_m, .inr (6, [.ref a_m_state, .ref a_m_readPage, .int m_toldOnce, .ref a_m_tape, .int m_taped, .int m_fault, .int m_broken, .int m_brokenAt, .int m_spot, .int m_here, .int m_token, .int m_value, .ref a_m_cuts, .ref a_m_letters, .int m_silent, .int x1.2.1, .int x1.2.2.1, .int x1.2.2.2.1, .ref a_m_seen, .int m_seenMany, .ref a_m_pointBy, .ref a_m_isKept, .ref a_m_lanes, .ref a_m_lengths, .ref a_m_sheetCells, .int m_torn])), (a_m_state, .inl (k 0, 156, .inl x1.2.2.2.2))] [(0, .ref a_m), (1, .int x1.1)] 2 []) ?_ 1000 _ hv H locs ls hP hD hS (lv_sub hl [1, 0] rfl)
  clear h
  intro x1 o h hC2 hX3 H locs ls hP hD hS hl
  unfold p_X6_need_b2 at h
  refine lv_iload_n hx hb dX6_need_2 rfl (lv_at hl 1 rfl) ?_
  refine lv_bipush (v := 18) hx hb dX6_need_3 (by decide) ?_
  refine lv_icmp_gt (tgt := 46) hx hb dX6_need_5 (by decide) (fun c12 => ?_) (fun c12 => ?_)
  · have h := zit c12 h
    exact hJ5 _ (hX3 _ (zs h)) H locs ls hP hD hS (lv_sub hl [] rfl)
  · have h := zif c12 h
    refine lv_aload_n hx hb dX6_need_8 rfl (lv_at hl 0 rfl) ?_
    refine lv_iconst (v := 0) hx hb dX6_need_9 (by decide) ?_
    refine lv_sipush (v := 130) hx hb dX6_need_10 (by decide) ?_
    obtain ⟨o8, hv, h⟩ := zb h
    refine z_gov (w2 := [(a_m, .inr (6, [.ref a_m_state, .ref a_m_readPage, .int m_toldOnce, .ref a_m_tape, .int m_taped, .int m_fault, .int m_broken, .int m_brokenAt, .int m_spot, .int m_here, .int m_token, .int m_value, .ref a_m_cuts, .ref a_m_letters, .int m_silent, .int x1.2.1, .int x1.2.2.1, .int x1.2.2.2.1, .ref a_m_seen, .int m_seenMany, .ref a_m_pointBy, .ref a_m_isKept, .ref a_m_lanes, .ref a_m_lengths, .ref a_m_sheetCells, .int m_torn])), (a_m_state, .inl (k 0, 156, .inl o8))]) [0, 1] (va_runV (As := [.int (0 : Int32), .int (130 : Int32)]) (rest := []) ⟨hx, hb, hml, hown, hts⟩ (c_X6_copies l G k tL tM sK sV a_m a_m_state a_m_readPage a_m_tape a_m_cuts a_m_letters a_m_seen a_m_pointBy a_m_isKept a_m_lanes a_m_lengths a_m_sheetCells H.size m_toldOnce m_taped m_fault m_broken m_brokenAt m_spot m_here m_token m_value m_silent x1.2.1 x1.2.2.1 x1.2.2.2.1 m_seenMany m_torn x1.2.2.2.2 (0 : Int32) (130 : Int32) o8 hv) (cwV 2 hts gX6_need_X6_copies rfl rfl rfl (by decide +kernel) ⟨Nat.le_of_ble_eq_true rfl, Nat.le_of_ble_eq_true rfl⟩) (z_preV (wc := [(a_m, .inr (6, [.ref a_m_state, .ref a_m_readPage, .int m_toldOnce, .ref a_m_tape, .int m_taped, .int m_fault, .int m_broken, .int m_brokenAt, .int m_spot, .int m_here, .int m_token, .int m_value, .ref a_m_cuts, .ref a_m_letters, .int m_silent, .int x1.2.1, .int x1.2.2.1, .int x1.2.2.2.1, .ref a_m_seen, .int m_seenMany, .ref a_m_pointBy, .ref a_m_isKept, .ref a_m_lanes, .ref a_m_lengths, .ref a_m_sheetCells, .int m_torn])), (a_m_state, .inl (k 0, 156, .inl x1.2.2.2.2))]) [0, 1] 0 6 hK hE hA hP hD hS (by decide) rfl rfl rfl) rfl rfl hl.1 rfl (lv_room (Nat.le_of_ble_eq_true rfl)) dX6_need_13 ⟨Nat.le_refl _, Nat.le_refl _⟩) hA hP hD hS rfl rfl rfl rfl (fun H locs hP hD hS => ?_)
    refine lv_aload_n hx hb dX6_need_16 rfl (lv_at hl 0 rfl) ?_
    refine va_get (D := G) (ci := 6) (v := .ref a_m_state) (C := RX6) (T := TX6) (N := 26) hx hb hts iw_X6_need_X6 hown hK hP 0 rfl rfl 0 (by decide) (hts (.fieldLink RX6 7 "SpireLeanModel" "state" "[I") (List.mem_of_getElem? (i := 1) rfl)) (fun _ h9 => h9) rfl dX6_need_17 ?_
    refine lv_sipush (v := 154) hx hb dX6_need_20 (by decide) ?_
    refine lv_iload_n hx hb dX6_need_23 rfl (lv_at hl 1 rfl) ?_
    refine lv_bipush (v := 9) hx hb dX6_need_24 (by decide) ?_
    refine lv_isub hx hb dX6_need_26 ?_
    obtain ⟨v9, hv, h⟩ := zb h
    refine z_iast hx hb hK hP hD hS 1 0 rfl rfl hv dX6_need_27 (fun H locs hP hD hS => ?_)
    have hP : va_P G vwCl [(a_m, .inr (6, [.ref a_m_state, .ref a_m_readPage, .int m_toldOnce, .ref a_m_tape, .int m_taped, .int m_fault, .int m_broken, .int m_brokenAt, .int m_spot, .int m_here, .int m_token, .int m_value, .ref a_m_cuts, .ref a_m_letters, .int m_silent, .int x1.2.1, .int x1.2.2.1, .int x1.2.2.2.1, .ref a_m_seen, .int m_seenMany, .ref a_m_pointBy, .ref a_m_isKept, .ref a_m_lanes, .ref a_m_lengths, .ref a_m_sheetCells, .int m_torn])), (a_m_state, .inl (k 0, 156, .inl v9))] H := hP
    have hD : va_D A [(a_m, .inr (6, [.ref a_m_state, .ref a_m_readPage, .int m_toldOnce, .ref a_m_tape, .int m_taped, .int m_fault, .int m_broken, .int m_brokenAt, .int m_spot, .int m_here, .int m_token, .int m_value, .ref a_m_cuts, .ref a_m_letters, .int m_silent, .int x1.2.1, .int x1.2.2.1, .int x1.2.2.2.1, .ref a_m_seen, .int m_seenMany, .ref a_m_pointBy, .ref a_m_isKept, .ref a_m_lanes, .ref a_m_lengths, .ref a_m_sheetCells, .int m_torn])), (a_m_state, .inl (k 0, 156, .inl v9))] := hD
    refine lv_aload_n hx hb dX6_need_28 rfl (lv_at hl 0 rfl) ?_
    refine lv_sipush (v := 130) hx hb dX6_need_29 (by decide) ?_
    obtain ⟨o10, hv, h⟩ := zb h
    refine z_goi (w2 := [(a_m, .inr (6, [.ref a_m_state, .ref a_m_readPage, .int m_toldOnce, .ref a_m_tape, .int m_taped, .int m_fault, .int m_broken, .int m_brokenAt, .int m_spot, .int m_here, .int m_token, .int m_value, .ref a_m_cuts, .ref a_m_letters, .int m_silent, .int o10.2.1, .int o10.2.2.1, .int o10.2.2.2.1, .ref a_m_seen, .int m_seenMany, .ref a_m_pointBy, .ref a_m_isKept, .ref a_m_lanes, .ref a_m_lengths, .ref a_m_sheetCells, .int m_torn])), (a_m_state, .inl (k 0, 156, .inl o10.2.2.2.2))]) [0, 1] (va_runV (As := [.int (130 : Int32)]) (rest := []) ⟨hx, hb, hml, hown, hts⟩ (c_X6_isFallenBehind l G k tL tM sK sV a_m a_m_state a_m_readPage a_m_tape a_m_cuts a_m_letters a_m_seen a_m_pointBy a_m_isKept a_m_lanes a_m_lengths a_m_sheetCells H.size m_toldOnce m_taped m_fault m_broken m_brokenAt m_spot m_here m_token m_value m_silent x1.2.1 x1.2.2.1 x1.2.2.2.1 m_seenMany m_torn v9 (130 : Int32) o10 hv) (cwV 1 hts gX6_need_X6_isFallenBehind rfl rfl rfl (by decide +kernel) ⟨Nat.le_of_ble_eq_true rfl, Nat.le_of_ble_eq_true rfl⟩) (z_preV (wc := [(a_m, .inr (6, [.ref a_m_state, .ref a_m_readPage, .int m_toldOnce, .ref a_m_tape, .int m_taped, .int m_fault, .int m_broken, .int m_brokenAt, .int m_spot, .int m_here, .int m_token, .int m_value, .ref a_m_cuts, .ref a_m_letters, .int m_silent, .int x1.2.1, .int x1.2.2.1, .int x1.2.2.2.1, .ref a_m_seen, .int m_seenMany, .ref a_m_pointBy, .ref a_m_isKept, .ref a_m_lanes, .ref a_m_lengths, .ref a_m_sheetCells, .int m_torn])), (a_m_state, .inl (k 0, 156, .inl v9))]) [0, 1] 0 6 hK hE hA hP hD hS (by decide) rfl rfl rfl) rfl rfl hl.1 rfl (lv_room (Nat.le_of_ble_eq_true rfl)) dX6_need_32 ⟨Nat.le_refl _, Nat.le_refl _⟩) hA hP hD hS rfl rfl rfl rfl (fun H locs hP hD hS => ?_)
    refine lv_if_ne (tgt := 40) hx hb dX6_need_35 (by decide) (fun c11 => ?_) (fun c11 => ?_)
    · have h := zif c11 h
      refine lv_iinc (v := x1.1 + (1 : Int32)) (lv' := [(1, .int (x1.1 + (1 : Int32))), (0, .ref a_m)]) hx hb dX6_need_40 hl (k := 1) rfl rfl (by decide) rfl (fun ls hl => ?_)
      refine lv_goto (tgt := 2) hx hb dX6_need_43 (by decide) ?_
      exact hC2 _ (zs h) H locs ls hP hD hS (lv_sub hl [1, 0] rfl)
    · have h := zit c11 h
      refine lv_iload_n hx hb dX6_need_38 rfl (lv_at hl 1 rfl) ?_
      have hr := (hJ4 _ (hX3 _ (zs h)))
      subst hr
      exact hret H locs ls 39 hP hS dX6_need_39
theorem iw_X6_brace_X6 : ∀ w ∈ wsX60, w ∈ wsX6_brace := fun _ h => List.mem_cons_of_mem _ (List.mem_append_right _ h)
set_option maxHeartbeats 4000000 in
set_option maxRecDepth 100000 in
theorem c_X6_brace (l : Launch) (G : va_G) (k : Nat → ClassId) (tL tM : Nat) (sK sV : Nat → Nat) (a_m : Nat) (a_m_state : Nat) (a_m_readPage : Nat) (a_m_tape : Nat) (a_m_cuts : Nat) (a_m_letters : Nat) (a_m_seen : Nat) (a_m_pointBy : Nat) (a_m_isKept : Nat) (a_m_lanes : Nat) (a_m_lengths : Nat) (a_m_sheetCells : Nat) (sz : Nat) (m_toldOnce : Int32) (m_taped : Int32) (m_fault : Int32) (m_broken : Int32) (m_brokenAt : Int32) (m_spot : Int32) (m_here : Int32) (m_token : Int32) (m_value : Int32) (m_silent : Int32) (m_greatest : Int32) (m_moves : Int32) (m_holders : Int32) (m_seenMany : Int32) (m_torn : Int32) (m_state : Nat → Int32) (out : Int32 × Int32 × Int32 × Int32 × (Nat → Int32)) (h : p_X6_brace m_silent m_greatest m_moves m_holders m_state = some out) : zMi l yX6_brace wsX6_brace 8 177 G k tL tM sK sV [.ref a_m] [(a_m, .inr (6, [.ref a_m_state, .ref a_m_readPage, .int m_toldOnce, .ref a_m_tape, .int m_taped, .int m_fault, .int m_broken, .int m_brokenAt, .int m_spot, .int m_here, .int m_token, .int m_value, .ref a_m_cuts, .ref a_m_letters, .int m_silent, .int m_greatest, .int m_moves, .int m_holders, .ref a_m_seen, .int m_seenMany, .ref a_m_pointBy, .ref a_m_isKept, .ref a_m_lanes, .ref a_m_lengths, .ref a_m_sheetCells, .int m_torn])), (a_m_state, .inl (k 0, 156, .inl m_state))] [(a_m, .inr (6, [.ref a_m_state, .ref a_m_readPage, .int m_toldOnce, .ref a_m_tape, .int m_taped, .int m_fault, .int m_broken, .int m_brokenAt, .int m_spot, .int m_here, .int m_token, .int m_value, .ref a_m_cuts, .ref a_m_letters, .int m_silent, .int out.2.1, .int out.2.2.1, .int out.2.2.2.1, .ref a_m_seen, .int m_seenMany, .ref a_m_pointBy, .ref a_m_isKept, .ref a_m_lanes, .ref a_m_lengths, .ref a_m_sheetCells, .int m_torn])), (a_m_state, .inl (k 0, 156, .inl out.2.2.2.2))] out.1 sz := by
  refine z_meti (cc := cX6_brace) (maxL := 2) (by decide) rfl (Nat.le_of_ble_eq_true rfl) ?_
  intro p e s m below meth c A Q H locs ls hx hb hml hts hown hA hK hE hret hP hD hS hl
  have hown : s.vm.findClass RX6 = some m.cls := hown
  have hl : lv_has ls 2 [(0, .ref a_m)] := hl
  unfold p_X6_brace at h
  refine lv_iconst (v := 0) hx hb dX6_brace_0 (by decide) ?_
  refine lv_istore_n (lv' := [(1, .int (0 : Int32)), (0, .ref a_m)]) hx hb dX6_brace_1 rfl hl (by decide) rfl (fun ls hl => ?_)
  obtain ⟨e6, hv, h⟩ := zb h
  have hJ4 : ∀ (x : Int32 × Int32 × Int32 × Int32 × (Nat → Int32)), .inl x = e6 → x = out := fun x hz => (zs (zpeel_0_2 hz h))
  have hJ5 : ∀ (v7 : Int32 × Int32 × Int32 × (Nat → Int32)), .inr v7 = e6 → zW p l e (zR 8 177) s m ([.ref a_m] : List Value).toArray below meth c Q 2 A G [(a_m, .inr (6, [.ref a_m_state, .ref a_m_readPage, .int m_toldOnce, .ref a_m_tape, .int m_taped, .int m_fault, .int m_broken, .int m_brokenAt, .int m_spot, .int m_here, .int m_token, .int m_value, .ref a_m_cuts, .ref a_m_letters, .int m_silent, .int v7.1, .int v7.2.1, .int v7.2.2.1, .ref a_m_seen, .int m_seenMany, .ref a_m_pointBy, .ref a_m_isKept, .ref a_m_lanes, .ref a_m_lengths, .ref a_m_sheetCells, .int m_torn])), (a_m_state, .inl (k 0, 156, .inl v7.2.2.2))] [] 45 [] := by
    intro v7 hz
    have h := (zpeel_1_2 hz h)
    intro H locs ls hP hD hS hl
    refine lv_bipush (v := (-4)) hx hb dX6_brace_45 (by decide) ?_
    have hr := (zs h)
    subst hr
    exact hret H locs ls 47 hP hS dX6_brace_47
  refine z_lpW (Wh := fun (x1 : Int32 × Int32 × Int32 × Int32 × (Nat → Int32)) => zW p l e (zR 8 177) s m ([.ref a_m] : List Value).toArray below meth c Q 2 A G [(a_m, .inr (6, [.ref a_m_state, .ref a_m_readPage, .int m_toldOnce, .ref a_m_tape, .int m_taped, .int m_fault, .int m_broken, .int m_brokenAt, .int m_spot, .int m_here, .int m_token, .int m_value, .ref a_m_cuts, .ref a_m_letters, .int m_silent, .int x1.2.1, .int x1.2.2.1, .int x1.2.2.2.1, .ref a_m_seen, .int m_seenMany, .ref a_m_pointBy, .ref a_m_isKept, .ref a_m_lanes, .ref a_m_lengths, .ref a_m_sheetCells, .int m_torn])), (a_m_state, .inl (k 0, 156, .inl x1.2.2.2.2))] [(0, .ref a_m), (1, .int x1.1)] 2 []) ?_ 1000 _ hv H locs ls hP hD hS (lv_sub hl [1, 0] rfl)
  clear h
  intro x1 o h hC2 hX3 H locs ls hP hD hS hl
  unfold p_X6_brace_b2 at h
  refine lv_iload_n hx hb dX6_brace_2 rfl (lv_at hl 1 rfl) ?_
  refine lv_bipush (v := 20) hx hb dX6_brace_3 (by decide) ?_
  refine lv_icmp_gt (tgt := 45) hx hb dX6_brace_5 (by decide) (fun c12 => ?_) (fun c12 => ?_)
  · have h := zit c12 h
    exact hJ5 _ (hX3 _ (zs h)) H locs ls hP hD hS (lv_sub hl [] rfl)
  · have h := zif c12 h
    refine lv_aload_n hx hb dX6_brace_8 rfl (lv_at hl 0 rfl) ?_
    refine lv_iconst (v := 0) hx hb dX6_brace_9 (by decide) ?_
    refine lv_sipush (v := 130) hx hb dX6_brace_10 (by decide) ?_
    obtain ⟨o8, hv, h⟩ := zb h
    refine z_gov (w2 := [(a_m, .inr (6, [.ref a_m_state, .ref a_m_readPage, .int m_toldOnce, .ref a_m_tape, .int m_taped, .int m_fault, .int m_broken, .int m_brokenAt, .int m_spot, .int m_here, .int m_token, .int m_value, .ref a_m_cuts, .ref a_m_letters, .int m_silent, .int x1.2.1, .int x1.2.2.1, .int x1.2.2.2.1, .ref a_m_seen, .int m_seenMany, .ref a_m_pointBy, .ref a_m_isKept, .ref a_m_lanes, .ref a_m_lengths, .ref a_m_sheetCells, .int m_torn])), (a_m_state, .inl (k 0, 156, .inl o8))]) [0, 1] (va_runV (As := [.int (0 : Int32), .int (130 : Int32)]) (rest := []) ⟨hx, hb, hml, hown, hts⟩ (c_X6_copies l G k tL tM sK sV a_m a_m_state a_m_readPage a_m_tape a_m_cuts a_m_letters a_m_seen a_m_pointBy a_m_isKept a_m_lanes a_m_lengths a_m_sheetCells H.size m_toldOnce m_taped m_fault m_broken m_brokenAt m_spot m_here m_token m_value m_silent x1.2.1 x1.2.2.1 x1.2.2.2.1 m_seenMany m_torn x1.2.2.2.2 (0 : Int32) (130 : Int32) o8 hv) (cwV 2 hts gX6_brace_X6_copies rfl rfl rfl (by decide +kernel) ⟨Nat.le_of_ble_eq_true rfl, Nat.le_of_ble_eq_true rfl⟩) (z_preV (wc := [(a_m, .inr (6, [.ref a_m_state, .ref a_m_readPage, .int m_toldOnce, .ref a_m_tape, .int m_taped, .int m_fault, .int m_broken, .int m_brokenAt, .int m_spot, .int m_here, .int m_token, .int m_value, .ref a_m_cuts, .ref a_m_letters, .int m_silent, .int x1.2.1, .int x1.2.2.1, .int x1.2.2.2.1, .ref a_m_seen, .int m_seenMany, .ref a_m_pointBy, .ref a_m_isKept, .ref a_m_lanes, .ref a_m_lengths, .ref a_m_sheetCells, .int m_torn])), (a_m_state, .inl (k 0, 156, .inl x1.2.2.2.2))]) [0, 1] 0 6 hK hE hA hP hD hS (by decide) rfl rfl rfl) rfl rfl hl.1 rfl (lv_room (Nat.le_of_ble_eq_true rfl)) dX6_brace_13 ⟨Nat.le_refl _, Nat.le_refl _⟩) hA hP hD hS rfl rfl rfl rfl (fun H locs hP hD hS => ?_)
    refine lv_aload_n hx hb dX6_brace_16 rfl (lv_at hl 0 rfl) ?_
    refine va_get (D := G) (ci := 6) (v := .ref a_m_state) (C := RX6) (T := TX6) (N := 26) hx hb hts iw_X6_brace_X6 hown hK hP 0 rfl rfl 0 (by decide) (hts (.fieldLink RX6 7 "SpireLeanModel" "state" "[I") (List.mem_of_getElem? (i := 1) rfl)) (fun _ h9 => h9) rfl dX6_brace_17 ?_
    refine lv_sipush (v := 153) hx hb dX6_brace_20 (by decide) ?_
    refine lv_iload_n hx hb dX6_brace_23 rfl (lv_at hl 1 rfl) ?_
    refine lv_iconst (v := 2) hx hb dX6_brace_24 (by decide) ?_
    refine lv_isub hx hb dX6_brace_25 ?_
    obtain ⟨v9, hv, h⟩ := zb h
    refine z_iast hx hb hK hP hD hS 1 0 rfl rfl hv dX6_brace_26 (fun H locs hP hD hS => ?_)
    have hP : va_P G vwCl [(a_m, .inr (6, [.ref a_m_state, .ref a_m_readPage, .int m_toldOnce, .ref a_m_tape, .int m_taped, .int m_fault, .int m_broken, .int m_brokenAt, .int m_spot, .int m_here, .int m_token, .int m_value, .ref a_m_cuts, .ref a_m_letters, .int m_silent, .int x1.2.1, .int x1.2.2.1, .int x1.2.2.2.1, .ref a_m_seen, .int m_seenMany, .ref a_m_pointBy, .ref a_m_isKept, .ref a_m_lanes, .ref a_m_lengths, .ref a_m_sheetCells, .int m_torn])), (a_m_state, .inl (k 0, 156, .inl v9))] H := hP
    have hD : va_D A [(a_m, .inr (6, [.ref a_m_state, .ref a_m_readPage, .int m_toldOnce, .ref a_m_tape, .int m_taped, .int m_fault, .int m_broken, .int m_brokenAt, .int m_spot, .int m_here, .int m_token, .int m_value, .ref a_m_cuts, .ref a_m_letters, .int m_silent, .int x1.2.1, .int x1.2.2.1, .int x1.2.2.2.1, .ref a_m_seen, .int m_seenMany, .ref a_m_pointBy, .ref a_m_isKept, .ref a_m_lanes, .ref a_m_lengths, .ref a_m_sheetCells, .int m_torn])), (a_m_state, .inl (k 0, 156, .inl v9))] := hD
    refine lv_aload_n hx hb dX6_brace_27 rfl (lv_at hl 0 rfl) ?_
    refine lv_sipush (v := 130) hx hb dX6_brace_28 (by decide) ?_
    obtain ⟨o10, hv, h⟩ := zb h
    refine z_goi (w2 := [(a_m, .inr (6, [.ref a_m_state, .ref a_m_readPage, .int m_toldOnce, .ref a_m_tape, .int m_taped, .int m_fault, .int m_broken, .int m_brokenAt, .int m_spot, .int m_here, .int m_token, .int m_value, .ref a_m_cuts, .ref a_m_letters, .int m_silent, .int o10.2.1, .int o10.2.2.1, .int o10.2.2.2.1, .ref a_m_seen, .int m_seenMany, .ref a_m_pointBy, .ref a_m_isKept, .ref a_m_lanes, .ref a_m_lengths, .ref a_m_sheetCells, .int m_torn])), (a_m_state, .inl (k 0, 156, .inl o10.2.2.2.2))]) [0, 1] (va_runV (As := [.int (130 : Int32)]) (rest := []) ⟨hx, hb, hml, hown, hts⟩ (c_X6_isFallenBehind l G k tL tM sK sV a_m a_m_state a_m_readPage a_m_tape a_m_cuts a_m_letters a_m_seen a_m_pointBy a_m_isKept a_m_lanes a_m_lengths a_m_sheetCells H.size m_toldOnce m_taped m_fault m_broken m_brokenAt m_spot m_here m_token m_value m_silent x1.2.1 x1.2.2.1 x1.2.2.2.1 m_seenMany m_torn v9 (130 : Int32) o10 hv) (cwV 1 hts gX6_brace_X6_isFallenBehind rfl rfl rfl (by decide +kernel) ⟨Nat.le_of_ble_eq_true rfl, Nat.le_of_ble_eq_true rfl⟩) (z_preV (wc := [(a_m, .inr (6, [.ref a_m_state, .ref a_m_readPage, .int m_toldOnce, .ref a_m_tape, .int m_taped, .int m_fault, .int m_broken, .int m_brokenAt, .int m_spot, .int m_here, .int m_token, .int m_value, .ref a_m_cuts, .ref a_m_letters, .int m_silent, .int x1.2.1, .int x1.2.2.1, .int x1.2.2.2.1, .ref a_m_seen, .int m_seenMany, .ref a_m_pointBy, .ref a_m_isKept, .ref a_m_lanes, .ref a_m_lengths, .ref a_m_sheetCells, .int m_torn])), (a_m_state, .inl (k 0, 156, .inl v9))]) [0, 1] 0 6 hK hE hA hP hD hS (by decide) rfl rfl rfl) rfl rfl hl.1 rfl (lv_room (Nat.le_of_ble_eq_true rfl)) dX6_brace_31 ⟨Nat.le_refl _, Nat.le_refl _⟩) hA hP hD hS rfl rfl rfl rfl (fun H locs hP hD hS => ?_)
    refine lv_if_ne (tgt := 39) hx hb dX6_brace_34 (by decide) (fun c11 => ?_) (fun c11 => ?_)
    · have h := zif c11 h
      refine lv_iinc (v := x1.1 + (1 : Int32)) (lv' := [(1, .int (x1.1 + (1 : Int32))), (0, .ref a_m)]) hx hb dX6_brace_39 hl (k := 1) rfl rfl (by decide) rfl (fun ls hl => ?_)
      refine lv_goto (tgt := 2) hx hb dX6_brace_42 (by decide) ?_
      exact hC2 _ (zs h) H locs ls hP hD hS (lv_sub hl [1, 0] rfl)
    · have h := zit c11 h
      refine lv_iload_n hx hb dX6_brace_37 rfl (lv_at hl 1 rfl) ?_
      have hr := (hJ4 _ (hX3 _ (zs h)))
      subst hr
      exact hret H locs ls 38 hP hS dX6_brace_38
theorem iw_X6_lure_X6 : ∀ w ∈ wsX60, w ∈ wsX6_lure := fun _ h => List.mem_cons_of_mem _ (List.mem_append_right _ h)
set_option maxHeartbeats 4000000 in
set_option maxRecDepth 100000 in
theorem c_X6_lure (l : Launch) (G : va_G) (k : Nat → ClassId) (tL tM : Nat) (sK sV : Nat → Nat) (a_m : Nat) (a_m_state : Nat) (a_m_readPage : Nat) (a_m_tape : Nat) (a_m_cuts : Nat) (a_m_letters : Nat) (a_m_seen : Nat) (a_m_pointBy : Nat) (a_m_isKept : Nat) (a_m_lanes : Nat) (a_m_lengths : Nat) (a_m_sheetCells : Nat) (sz : Nat) (m_toldOnce : Int32) (m_taped : Int32) (m_fault : Int32) (m_broken : Int32) (m_brokenAt : Int32) (m_spot : Int32) (m_here : Int32) (m_token : Int32) (m_value : Int32) (m_silent : Int32) (m_greatest : Int32) (m_moves : Int32) (m_holders : Int32) (m_seenMany : Int32) (m_torn : Int32) (m_state : Nat → Int32) (u1 : Int32) (u2 : Int32) (out : Int32 × (Nat → Int32)) (h : p_X6_lure u1 u2 m_silent m_state = some out) : zMi l yX6_lure wsX6_lure 7 154 G k tL tM sK sV [.ref a_m, .int u1, .int u2] [(a_m, .inr (6, [.ref a_m_state, .ref a_m_readPage, .int m_toldOnce, .ref a_m_tape, .int m_taped, .int m_fault, .int m_broken, .int m_brokenAt, .int m_spot, .int m_here, .int m_token, .int m_value, .ref a_m_cuts, .ref a_m_letters, .int m_silent, .int m_greatest, .int m_moves, .int m_holders, .ref a_m_seen, .int m_seenMany, .ref a_m_pointBy, .ref a_m_isKept, .ref a_m_lanes, .ref a_m_lengths, .ref a_m_sheetCells, .int m_torn])), (a_m_state, .inl (k 0, 156, .inl m_state))] [(a_m, .inr (6, [.ref a_m_state, .ref a_m_readPage, .int m_toldOnce, .ref a_m_tape, .int m_taped, .int m_fault, .int m_broken, .int m_brokenAt, .int m_spot, .int m_here, .int m_token, .int m_value, .ref a_m_cuts, .ref a_m_letters, .int m_silent, .int m_greatest, .int m_moves, .int m_holders, .ref a_m_seen, .int m_seenMany, .ref a_m_pointBy, .ref a_m_isKept, .ref a_m_lanes, .ref a_m_lengths, .ref a_m_sheetCells, .int m_torn])), (a_m_state, .inl (k 0, 156, .inl out.2))] out.1 sz := by
  refine z_meti (cc := cX6_lure) (maxL := 4) (by decide) rfl (Nat.le_of_ble_eq_true rfl) ?_
  intro p e s m below meth c A Q H locs ls hx hb hml hts hown hA hK hE hret hP hD hS hl
  have hown : s.vm.findClass RX6 = some m.cls := hown
  have hl : lv_has ls 4 [(0, .ref a_m), (1, .int u1), (2, .int u2)] := hl
  unfold p_X6_lure at h
  refine lv_aload_n hx hb dX6_lure_0 rfl (lv_at hl 0 rfl) ?_
  refine lv_iload_n hx hb dX6_lure_1 rfl (lv_at hl 1 rfl) ?_
  obtain ⟨o1, hv, h⟩ := zb h
  refine z_goi (w2 := [(a_m, .inr (6, [.ref a_m_state, .ref a_m_readPage, .int m_toldOnce, .ref a_m_tape, .int m_taped, .int m_fault, .int m_broken, .int m_brokenAt, .int m_spot, .int m_here, .int m_token, .int m_value, .ref a_m_cuts, .ref a_m_letters, .int m_silent, .int m_greatest, .int m_moves, .int m_holders, .ref a_m_seen, .int m_seenMany, .ref a_m_pointBy, .ref a_m_isKept, .ref a_m_lanes, .ref a_m_lengths, .ref a_m_sheetCells, .int m_torn])), (a_m_state, .inl (k 0, 156, .inl m_state))]) [0, 1] (va_runV (As := [.int u1]) (rest := []) ⟨hx, hb, hml, hown, hts⟩ (c_X6_isDraw l G k tL tM sK sV a_m a_m_state a_m_readPage a_m_tape a_m_cuts a_m_letters a_m_seen a_m_pointBy a_m_isKept a_m_lanes a_m_lengths a_m_sheetCells H.size m_toldOnce m_taped m_fault m_broken m_brokenAt m_spot m_here m_token m_value m_silent m_greatest m_moves m_holders m_seenMany m_torn m_state u1 o1 hv) (cwV 1 hts gX6_lure_X6_isDraw rfl rfl rfl (by decide +kernel) ⟨Nat.le_of_ble_eq_true rfl, Nat.le_of_ble_eq_true rfl⟩) (z_preV (wc := [(a_m, .inr (6, [.ref a_m_state, .ref a_m_readPage, .int m_toldOnce, .ref a_m_tape, .int m_taped, .int m_fault, .int m_broken, .int m_brokenAt, .int m_spot, .int m_here, .int m_token, .int m_value, .ref a_m_cuts, .ref a_m_letters, .int m_silent, .int m_greatest, .int m_moves, .int m_holders, .ref a_m_seen, .int m_seenMany, .ref a_m_pointBy, .ref a_m_isKept, .ref a_m_lanes, .ref a_m_lengths, .ref a_m_sheetCells, .int m_torn])), (a_m_state, .inl (k 0, 156, .inl m_state))]) [0, 1] 0 6 hK hE hA hP hD hS (by decide) rfl rfl rfl) rfl rfl hl.1 rfl (lv_room (Nat.le_of_ble_eq_true rfl)) dX6_lure_2 ⟨Nat.le_refl _, Nat.le_refl _⟩) hA hP hD hS rfl rfl rfl rfl (fun H locs hP hD hS => ?_)
  refine lv_if_eq (tgt := 15) hx hb dX6_lure_5 (by decide) (fun c16 => ?_) (fun c16 => ?_)
  · have h := zit c16 h
    refine lv_iconst (v := (-1)) hx hb dX6_lure_15 (by decide) ?_
    have hr := (zs h)
    subst hr
    exact hret H locs ls 16 hP hS dX6_lure_16
  · have h := zif c16 h
    refine lv_iload_n hx hb dX6_lure_8 rfl (lv_at hl 2 rfl) ?_
    obtain ⟨o2, hv, h⟩ := zb h
    refine z_goi (w2 := [(a_m, .inr (6, [.ref a_m_state, .ref a_m_readPage, .int m_toldOnce, .ref a_m_tape, .int m_taped, .int m_fault, .int m_broken, .int m_brokenAt, .int m_spot, .int m_here, .int m_token, .int m_value, .ref a_m_cuts, .ref a_m_letters, .int m_silent, .int m_greatest, .int m_moves, .int m_holders, .ref a_m_seen, .int m_seenMany, .ref a_m_pointBy, .ref a_m_isKept, .ref a_m_lanes, .ref a_m_lengths, .ref a_m_sheetCells, .int m_torn])), (a_m_state, .inl (k 0, 156, .inl m_state))]) [] (va_runS (As := [.int u2]) (rest := []) ⟨hx, hb, hml, hown, hts⟩ (c_X6_isCell l G k tL tM sK sV H.size u2 o2 hv) (va_cwS 1 hts gX6_lure_X6_isCell rfl rfl rfl (by decide +kernel) ⟨Nat.le_of_ble_eq_true rfl, Nat.le_of_ble_eq_true rfl⟩) (z_preS (wc := []) [] hK hE hA hP hD hS (by decide) rfl) rfl rfl hl.1 rfl (lv_room (Nat.le_of_ble_eq_true rfl)) dX6_lure_9 ⟨Nat.le_refl _, Nat.le_refl _⟩) hA hP hD hS rfl rfl rfl rfl (fun H locs hP hD hS => ?_)
    refine lv_if_ne (tgt := 17) hx hb dX6_lure_12 (by decide) (fun c15 => ?_) (fun c15 => ?_)
    · have h := zif c15 h
      refine lv_iconst (v := 1) hx hb dX6_lure_17 (by decide) ?_
      refine lv_istore_n (lv' := [(3, .int (1 : Int32)), (0, .ref a_m), (1, .int u1), (2, .int u2)]) hx hb dX6_lure_18 rfl hl (by decide) rfl (fun ls hl => ?_)
      obtain ⟨e8, hv, h⟩ := zb h
      have hJ6 : ∀ (x : Int32 × (Nat → Int32)), .inl x = e8 → x = out := fun x hz => (zs (zpeel_0_2 hz h))
      have hJ7 : ∀ (v9 : (Nat → Int32)), .inr v9 = e8 → zW p l e (zR 7 154) s m ([.ref a_m, .int u1, .int u2] : List Value).toArray below meth c Q 4 A G [(a_m, .inr (6, [.ref a_m_state, .ref a_m_readPage, .int m_toldOnce, .ref a_m_tape, .int m_taped, .int m_fault, .int m_broken, .int m_brokenAt, .int m_spot, .int m_here, .int m_token, .int m_value, .ref a_m_cuts, .ref a_m_letters, .int m_silent, .int m_greatest, .int m_moves, .int m_holders, .ref a_m_seen, .int m_seenMany, .ref a_m_pointBy, .ref a_m_isKept, .ref a_m_lanes, .ref a_m_lengths, .ref a_m_sheetCells, .int m_torn])), (a_m_state, .inl (k 0, 156, .inl v9))] [] 65 [] := by
        intro v9 hz
        have h := (zpeel_1_2 hz h)
        intro H locs ls hP hD hS hl
        refine lv_bipush (v := (-4)) hx hb dX6_lure_65 (by decide) ?_
        have hr := (zs h)
        subst hr
        exact hret H locs ls 67 hP hS dX6_lure_67
      refine z_lpW (Wh := fun (x3 : Int32 × (Nat → Int32)) => zW p l e (zR 7 154) s m ([.ref a_m, .int u1, .int u2] : List Value).toArray below meth c Q 4 A G [(a_m, .inr (6, [.ref a_m_state, .ref a_m_readPage, .int m_toldOnce, .ref a_m_tape, .int m_taped, .int m_fault, .int m_broken, .int m_brokenAt, .int m_spot, .int m_here, .int m_token, .int m_value, .ref a_m_cuts, .ref a_m_letters, .int m_silent, .int m_greatest, .int m_moves, .int m_holders, .ref a_m_seen, .int m_seenMany, .ref a_m_pointBy, .ref a_m_isKept, .ref a_m_lanes, .ref a_m_lengths, .ref a_m_sheetCells, .int m_torn])), (a_m_state, .inl (k 0, 156, .inl x3.2))] [(0, .ref a_m), (1, .int u1), (2, .int u2), (3, .int x3.1)] 19 []) ?_ 1000 _ hv H locs ls hP hD hS (lv_sub hl [1, 2, 3, 0] rfl)
      clear h
      intro x3 o h hC4 hX5 H locs ls hP hD hS hl
      unfold p_X6_lure_b19 at h
      refine lv_iload_n hx hb dX6_lure_19 rfl (lv_at hl 3 rfl) ?_
      refine lv_bipush (v := 20) hx hb dX6_lure_20 (by decide) ?_
      refine lv_icmp_gt (tgt := 65) hx hb dX6_lure_22 (by decide) (fun c14 => ?_) (fun c14 => ?_)
      · have h := zit c14 h
        exact hJ7 _ (hX5 _ (zs h)) H locs ls hP hD hS (lv_sub hl [] rfl)
      · have h := zif c14 h
        refine lv_aload_n hx hb dX6_lure_25 rfl (lv_at hl 0 rfl) ?_
        refine lv_iconst (v := 0) hx hb dX6_lure_26 (by decide) ?_
        refine lv_sipush (v := 130) hx hb dX6_lure_27 (by decide) ?_
        obtain ⟨o10, hv, h⟩ := zb h
        refine z_gov (w2 := [(a_m, .inr (6, [.ref a_m_state, .ref a_m_readPage, .int m_toldOnce, .ref a_m_tape, .int m_taped, .int m_fault, .int m_broken, .int m_brokenAt, .int m_spot, .int m_here, .int m_token, .int m_value, .ref a_m_cuts, .ref a_m_letters, .int m_silent, .int m_greatest, .int m_moves, .int m_holders, .ref a_m_seen, .int m_seenMany, .ref a_m_pointBy, .ref a_m_isKept, .ref a_m_lanes, .ref a_m_lengths, .ref a_m_sheetCells, .int m_torn])), (a_m_state, .inl (k 0, 156, .inl o10))]) [0, 1] (va_runV (As := [.int (0 : Int32), .int (130 : Int32)]) (rest := []) ⟨hx, hb, hml, hown, hts⟩ (c_X6_copies l G k tL tM sK sV a_m a_m_state a_m_readPage a_m_tape a_m_cuts a_m_letters a_m_seen a_m_pointBy a_m_isKept a_m_lanes a_m_lengths a_m_sheetCells H.size m_toldOnce m_taped m_fault m_broken m_brokenAt m_spot m_here m_token m_value m_silent m_greatest m_moves m_holders m_seenMany m_torn x3.2 (0 : Int32) (130 : Int32) o10 hv) (cwV 2 hts gX6_lure_X6_copies rfl rfl rfl (by decide +kernel) ⟨Nat.le_of_ble_eq_true rfl, Nat.le_of_ble_eq_true rfl⟩) (z_preV (wc := [(a_m, .inr (6, [.ref a_m_state, .ref a_m_readPage, .int m_toldOnce, .ref a_m_tape, .int m_taped, .int m_fault, .int m_broken, .int m_brokenAt, .int m_spot, .int m_here, .int m_token, .int m_value, .ref a_m_cuts, .ref a_m_letters, .int m_silent, .int m_greatest, .int m_moves, .int m_holders, .ref a_m_seen, .int m_seenMany, .ref a_m_pointBy, .ref a_m_isKept, .ref a_m_lanes, .ref a_m_lengths, .ref a_m_sheetCells, .int m_torn])), (a_m_state, .inl (k 0, 156, .inl x3.2))]) [0, 1] 0 6 hK hE hA hP hD hS (by decide) rfl rfl rfl) rfl rfl hl.1 rfl (lv_room (Nat.le_of_ble_eq_true rfl)) dX6_lure_30 ⟨Nat.le_refl _, Nat.le_refl _⟩) hA hP hD hS rfl rfl rfl rfl (fun H locs hP hD hS => ?_)
        refine lv_aload_n hx hb dX6_lure_33 rfl (lv_at hl 0 rfl) ?_
        refine va_get (D := G) (ci := 6) (v := .ref a_m_state) (C := RX6) (T := TX6) (N := 26) hx hb hts iw_X6_lure_X6 hown hK hP 0 rfl rfl 0 (by decide) (hts (.fieldLink RX6 7 "SpireLeanModel" "state" "[I") (List.mem_of_getElem? (i := 1) rfl)) (fun _ h9 => h9) rfl dX6_lure_34 ?_
        refine lv_sipush (v := 135) hx hb dX6_lure_37 (by decide) ?_
        refine lv_iload_n hx hb dX6_lure_40 rfl (lv_at hl 1 rfl) ?_
        refine lv_iadd hx hb dX6_lure_41 ?_
        refine lv_iload_n hx hb dX6_lure_42 rfl (lv_at hl 3 rfl) ?_
        obtain ⟨v11, hv, h⟩ := zb h
        refine z_iast hx hb hK hP hD hS 1 0 rfl rfl hv dX6_lure_43 (fun H locs hP hD hS => ?_)
        have hP : va_P G vwCl [(a_m, .inr (6, [.ref a_m_state, .ref a_m_readPage, .int m_toldOnce, .ref a_m_tape, .int m_taped, .int m_fault, .int m_broken, .int m_brokenAt, .int m_spot, .int m_here, .int m_token, .int m_value, .ref a_m_cuts, .ref a_m_letters, .int m_silent, .int m_greatest, .int m_moves, .int m_holders, .ref a_m_seen, .int m_seenMany, .ref a_m_pointBy, .ref a_m_isKept, .ref a_m_lanes, .ref a_m_lengths, .ref a_m_sheetCells, .int m_torn])), (a_m_state, .inl (k 0, 156, .inl v11))] H := hP
        have hD : va_D A [(a_m, .inr (6, [.ref a_m_state, .ref a_m_readPage, .int m_toldOnce, .ref a_m_tape, .int m_taped, .int m_fault, .int m_broken, .int m_brokenAt, .int m_spot, .int m_here, .int m_token, .int m_value, .ref a_m_cuts, .ref a_m_letters, .int m_silent, .int m_greatest, .int m_moves, .int m_holders, .ref a_m_seen, .int m_seenMany, .ref a_m_pointBy, .ref a_m_isKept, .ref a_m_lanes, .ref a_m_lengths, .ref a_m_sheetCells, .int m_torn])), (a_m_state, .inl (k 0, 156, .inl v11))] := hD
        refine lv_aload_n hx hb dX6_lure_44 rfl (lv_at hl 0 rfl) ?_
        refine lv_sipush (v := 130) hx hb dX6_lure_45 (by decide) ?_
        refine lv_iload_n hx hb dX6_lure_48 rfl (lv_at hl 2 rfl) ?_
        obtain ⟨o12, hv, h⟩ := zb h
        refine z_goi (w2 := [(a_m, .inr (6, [.ref a_m_state, .ref a_m_readPage, .int m_toldOnce, .ref a_m_tape, .int m_taped, .int m_fault, .int m_broken, .int m_brokenAt, .int m_spot, .int m_here, .int m_token, .int m_value, .ref a_m_cuts, .ref a_m_letters, .int m_silent, .int m_greatest, .int m_moves, .int m_holders, .ref a_m_seen, .int m_seenMany, .ref a_m_pointBy, .ref a_m_isKept, .ref a_m_lanes, .ref a_m_lengths, .ref a_m_sheetCells, .int m_torn])), (a_m_state, .inl (k 0, 156, .inl o12.2))]) [0, 1] (va_runV (As := [.int (130 : Int32), .int u2]) (rest := []) ⟨hx, hb, hml, hown, hts⟩ (c_X6_comesOn l G k tL tM sK sV a_m a_m_state a_m_readPage a_m_tape a_m_cuts a_m_letters a_m_seen a_m_pointBy a_m_isKept a_m_lanes a_m_lengths a_m_sheetCells H.size m_toldOnce m_taped m_fault m_broken m_brokenAt m_spot m_here m_token m_value m_silent m_greatest m_moves m_holders m_seenMany m_torn v11 (130 : Int32) u2 o12 hv) (cwV 2 hts gX6_lure_X6_comesOn rfl rfl rfl (by decide +kernel) ⟨Nat.le_of_ble_eq_true rfl, Nat.le_of_ble_eq_true rfl⟩) (z_preV (wc := [(a_m, .inr (6, [.ref a_m_state, .ref a_m_readPage, .int m_toldOnce, .ref a_m_tape, .int m_taped, .int m_fault, .int m_broken, .int m_brokenAt, .int m_spot, .int m_here, .int m_token, .int m_value, .ref a_m_cuts, .ref a_m_letters, .int m_silent, .int m_greatest, .int m_moves, .int m_holders, .ref a_m_seen, .int m_seenMany, .ref a_m_pointBy, .ref a_m_isKept, .ref a_m_lanes, .ref a_m_lengths, .ref a_m_sheetCells, .int m_torn])), (a_m_state, .inl (k 0, 156, .inl v11))]) [0, 1] 0 6 hK hE hA hP hD hS (by decide) rfl rfl rfl) rfl rfl hl.1 rfl (lv_room (Nat.le_of_ble_eq_true rfl)) dX6_lure_49 ⟨Nat.le_refl _, Nat.le_refl _⟩) hA hP hD hS rfl rfl rfl rfl (fun H locs hP hD hS => ?_)
        refine lv_bipush (v := (-4)) hx hb dX6_lure_52 (by decide) ?_
        refine lv_icmp_eq (tgt := 59) hx hb dX6_lure_54 (by decide) (fun c13 => ?_) (fun c13 => ?_)
        · have h := zit c13 h
          refine lv_iinc (v := x3.1 + (1 : Int32)) (lv' := [(3, .int (x3.1 + (1 : Int32))), (0, .ref a_m), (1, .int u1), (2, .int u2)]) hx hb dX6_lure_59 hl (k := 3) rfl rfl (by decide) rfl (fun ls hl => ?_)
          refine lv_goto (tgt := 19) hx hb dX6_lure_62 (by decide) ?_
          exact hC4 _ (zs h) H locs ls hP hD hS (lv_sub hl [1, 2, 3, 0] rfl)
        · have h := zif c13 h
          refine lv_iload_n hx hb dX6_lure_57 rfl (lv_at hl 3 rfl) ?_
          have hr := (hJ6 _ (hX5 _ (zs h)))
          subst hr
          exact hret H locs ls 58 hP hS dX6_lure_58
    · have h := zit c15 h
      refine lv_iconst (v := (-1)) hx hb dX6_lure_15 (by decide) ?_
      have hr := (zs h)
      subst hr
      exact hret H locs ls 16 hP hS dX6_lure_16
