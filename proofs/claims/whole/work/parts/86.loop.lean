set_option maxHeartbeats 40000000 in
set_option maxRecDepth 100000 in
theorem law_loop {p : Program} {l : Launch} {e : Env} {s : State} {m : MethodId} {below : List Frame} {meth : Method} {c : Code} {b L : Nat} {xs : Nat → Int32} {G : va_G} {k : Nat → ClassId} {tL tM : Nat} {sK sV : Nat → Nat} (hL : L ≤ 2560) (C : zLC p s m c b L xs G k tL tM sK sV) (hr : meth.sig.returnType = ret) (hlocks : meth.locks = false) {a_x a_L a_L_traits a_T a_T_traits a_x_images a_A0 a_A0_traits a_A1 a_A1_traits a_x_kept a_P a_P_bytes a_N a_N_years a_N_cells a_D a_D_weights a_D_later a_x_sheets a_S0 a_S0_cells a_S1 a_S1_cells a_S2 a_S2_cells a_S3 a_S3_cells a_x_tally a_x_points a_m a_m_state a_m_readPage a_m_tape a_m_cuts a_m_letters a_m_seen a_m_pointBy a_m_isKept a_m_lanes a_m_lengths a_m_sheetCells : Nat} : ∀ (n j : Nat) (x_textFault : Int32) (x_readFault : Int32) (L_draws : Int32) (L_foot : Int32) (L_point : Int32) (L_stiff : Int32) (L_bears : Int32) (L_year : Int32) (L_traits : Nat → Int32) (T_draws : Int32) (T_foot : Int32) (T_point : Int32) (T_stiff : Int32) (T_bears : Int32) (T_year : Int32) (T_traits : Nat → Int32) (A0_draws : Int32) (A0_foot : Int32) (A0_point : Int32) (A0_stiff : Int32) (A0_bears : Int32) (A0_year : Int32) (A0_traits : Nat → Int32) (A1_draws : Int32) (A1_foot : Int32) (A1_point : Int32) (A1_stiff : Int32) (A1_bears : Int32) (A1_year : Int32) (A1_traits : Nat → Int32) (x_kept : Nat → Int32) (P_length : Int32) (P_place : Int32) (P_token : Int32) (P_tokenPlace : Int32) (P_number : Int32) (P_told : Int32) (P_fault : Int32) (P_faultPlace : Int32) (P_bytes : Nat → Int32) (N_size : Int32) (N_years : Nat → Int32) (N_cells : Nat → Int32) (D_whole : Int64) (D_weights : Nat → Int64) (D_later : Nat → Int64) (S0_lane : Int32) (S0_size : Int32) (S0_cells : Nat → Int32) (S1_lane : Int32) (S1_size : Int32) (S1_cells : Nat → Int32) (S2_lane : Int32) (S2_size : Int32) (S2_cells : Nat → Int32) (S3_lane : Int32) (S3_size : Int32) (S3_cells : Nat → Int32) (x_tally : Nat → Int32) (x_points : Nat → Int32) (m_toldOnce : Int32) (m_taped : Int32) (m_fault : Int32) (m_broken : Int32) (m_brokenAt : Int32) (m_spot : Int32) (m_here : Int32) (m_token : Int32) (m_value : Int32) (m_silent : Int32) (m_greatest : Int32) (m_moves : Int32) (m_holders : Int32) (m_seenMany : Int32) (m_torn : Int32) (m_state : Nat → Int32) (m_readPage : Nat → Int32) (m_tape : Nat → Int32) (m_cuts : Nat → Int32) (m_letters : Nat → Int32) (m_seen : Nat → Int32) (m_pointBy : Nat → Int32) (m_isKept : Nat → Int32) (m_lanes : Nat → Int32) (m_lengths : Nat → Int32) (m_sheetCells : Nat → Int32) (x : Int32), x = nI j → j ≤ L → L - j < n → zRel L_draws L_foot L_point L_stiff L_bears L_year L_traits A0_draws A0_foot A0_point A0_stiff A0_bears A0_year A0_traits A1_draws A1_foot A1_point A1_stiff A1_bears A1_year A1_traits x_kept P_length P_bytes N_size N_years N_cells S0_lane S0_size S0_cells S1_lane S1_size S1_cells S2_lane S2_size S2_cells S3_lane S3_size S3_cells x_textFault x_readFault m_state m_tape m_taped m_fault m_cuts m_letters m_silent m_seen m_seenMany m_isKept m_lanes m_lengths m_sheetCells m_torn → zWL p l e s m b below meth c (lw_Z below #[Value.ref b] s) G [(a_x, .inr (5, [.ref a_L, .ref a_T, .ref a_x_images, .ref a_x_kept, .ref a_P, .ref a_N, .ref a_D, .ref a_x_sheets, .ref a_x_points, .ref a_x_tally, .int x_textFault, .int x_readFault])), (a_L, .inr (4, [.ref a_L_traits, .int L_draws, .int L_foot, .int L_point, .int L_stiff, .int L_bears, .int L_year])), (a_L_traits, .inl (k 0, 20, .inl L_traits)), (a_T, .inr (4, [.ref a_T_traits, .int T_draws, .int T_foot, .int T_point, .int T_stiff, .int T_bears, .int T_year])), (a_T_traits, .inl (k 0, 20, .inl T_traits)), (a_x_images, .inl (k 4, 2, .inr (.inr (.inr (.inr (fun j => if j = 0 then some a_A0 else if j = 1 then some a_A1 else none)))))), (a_A0, .inr (4, [.ref a_A0_traits, .int A0_draws, .int A0_foot, .int A0_point, .int A0_stiff, .int A0_bears, .int A0_year])), (a_A0_traits, .inl (k 0, 20, .inl A0_traits)), (a_A1, .inr (4, [.ref a_A1_traits, .int A1_draws, .int A1_foot, .int A1_point, .int A1_stiff, .int A1_bears, .int A1_year])), (a_A1_traits, .inl (k 0, 20, .inl A1_traits)), (a_x_kept, .inl (k 3, 2, .inl x_kept)), (a_P, .inr (3, [.ref a_P_bytes, .int P_length, .int P_place, .int P_token, .int P_tokenPlace, .int P_number, .int P_told, .int P_fault, .int P_faultPlace])), (a_P_bytes, .inl (k 1, 160, .inl P_bytes)), (a_N, .inr (2, [.ref a_N_years, .ref a_N_cells, .int N_size])), (a_N_years, .inl (k 0, 6, .inl N_years)), (a_N_cells, .inl (k 0, 6, .inl N_cells)), (a_D, .inr (0, [.ref a_D_weights, .ref a_D_later, .long D_whole])), (a_D_weights, .inl (k 2, 100, .inr (.inl D_weights))), (a_D_later, .inl (k 2, 100, .inr (.inl D_later))), (a_x_sheets, .inl (k 5, 4, .inr (.inr (.inr (.inr (fun j => if j = 0 then some a_S0 else if j = 1 then some a_S1 else if j = 2 then some a_S2 else if j = 3 then some a_S3 else none)))))), (a_S0, .inr (1, [.ref a_S0_cells, .int S0_lane, .int S0_size])), (a_S0_cells, .inl (k 0, 40, .inl S0_cells)), (a_S1, .inr (1, [.ref a_S1_cells, .int S1_lane, .int S1_size])), (a_S1_cells, .inl (k 0, 40, .inl S1_cells)), (a_S2, .inr (1, [.ref a_S2_cells, .int S2_lane, .int S2_size])), (a_S2_cells, .inl (k 0, 40, .inl S2_cells)), (a_S3, .inr (1, [.ref a_S3_cells, .int S3_lane, .int S3_size])), (a_S3_cells, .inl (k 0, 40, .inl S3_cells)), (a_x_tally, .inl (k 0, 100, .inl x_tally)), (a_x_points, .inl (k 0, 21, .inl x_points)), (a_m, .inr (6, [.ref a_m_state, .ref a_m_readPage, .int m_toldOnce, .ref a_m_tape, .int m_taped, .int m_fault, .int m_broken, .int m_brokenAt, .int m_spot, .int m_here, .int m_token, .int m_value, .ref a_m_cuts, .ref a_m_letters, .int m_silent, .int m_greatest, .int m_moves, .int m_holders, .ref a_m_seen, .int m_seenMany, .ref a_m_pointBy, .ref a_m_isKept, .ref a_m_lanes, .ref a_m_lengths, .ref a_m_sheetCells, .int m_torn])), (a_m_state, .inl (k 0, 156, .inl m_state)), (a_m_readPage, .inl (k 0, 26, .inl m_readPage)), (a_m_tape, .inl (k 0, 160, .inl m_tape)), (a_m_cuts, .inl (k 0, 8, .inl m_cuts)), (a_m_letters, .inl (k 0, 37, .inl m_letters)), (a_m_seen, .inl (k 0, 12, .inl m_seen)), (a_m_pointBy, .inl (k 0, 651, .inl m_pointBy)), (a_m_isKept, .inl (k 3, 2, .inl m_isKept)), (a_m_lanes, .inl (k 0, 4, .inl m_lanes)), (a_m_lengths, .inl (k 0, 4, .inl m_lengths)), (a_m_sheetCells, .inl (k 0, 160, .inl m_sheetCells))] [(0, .ref b), (1, .ref a_x), (2, .ref a_m), (3, .int x)] 18 [] := by
  intro n
  induction n with
  | zero => intro j x_textFault x_readFault L_draws L_foot L_point L_stiff L_bears L_year L_traits T_draws T_foot T_point T_stiff T_bears T_year T_traits A0_draws A0_foot A0_point A0_stiff A0_bears A0_year A0_traits A1_draws A1_foot A1_point A1_stiff A1_bears A1_year A1_traits x_kept P_length P_place P_token P_tokenPlace P_number P_told P_fault P_faultPlace P_bytes N_size N_years N_cells D_whole D_weights D_later S0_lane S0_size S0_cells S1_lane S1_size S1_cells S2_lane S2_size S2_cells S3_lane S3_size S3_cells x_tally x_points m_toldOnce m_taped m_fault m_broken m_brokenAt m_spot m_here m_token m_value m_silent m_greatest m_moves m_holders m_seenMany m_torn m_state m_readPage m_tape m_cuts m_letters m_seen m_pointBy m_isKept m_lanes m_lengths m_sheetCells x ex h1 h2; omega
  | succ n ih =>
    intro j x_textFault x_readFault L_draws L_foot L_point L_stiff L_bears L_year L_traits T_draws T_foot T_point T_stiff T_bears T_year T_traits A0_draws A0_foot A0_point A0_stiff A0_bears A0_year A0_traits A1_draws A1_foot A1_point A1_stiff A1_bears A1_year A1_traits x_kept P_length P_place P_token P_tokenPlace P_number P_told P_fault P_faultPlace P_bytes N_size N_years N_cells D_whole D_weights D_later S0_lane S0_size S0_cells S1_lane S1_size S1_cells S2_lane S2_size S2_cells S3_lane S3_size S3_cells x_tally x_points m_toldOnce m_taped m_fault m_broken m_brokenAt m_spot m_here m_token m_value m_silent m_greatest m_moves m_holders m_seenMany m_torn m_state m_readPage m_tape m_cuts m_letters m_seen m_pointBy m_isKept m_lanes m_lengths m_sheetCells x ex hj hn hR H locs ls hP hD hS hl
    have C0 := C
    obtain ⟨hx, hb, hml, hown, hts, hX, hbl, hK, hE⟩ := C
    have hbA : ¬ (fun q : Nat => s.heap.size ≤ q) b := Nat.not_le.mpr hbl
    refine lv_iload_n hx hb dL_law_18 rfl (lv_at hl 3 rfl) ?_
    refine lv_aload_n hx hb dL_law_19 rfl (lv_at hl 0 rfl) ?_
    refine va_slen hx hb hX hbl hbA hS dL_law_20 ?_
    refine lv_iconst (v := 5) hx hb dL_law_21 (by decide) ?_
    refine lv_isub hx hb dL_law_22 ?_
    refine lv_icmp_gt (tgt := 1404) hx hb dL_law_23 (by decide) (fun c1 => ?_) (fun c1 => ?_)
    · refine lv_iconst (v := 1) hx hb dL_law_1404 (by decide) ?_
      refine va_forget (fun q hq => hS.2.2 q hq) ?_
      refine W.widen (k := 600000) (n := 7302250) (by decide) (by decide) ?_
      exact lw_ret hx hb hr hlocks dL_law_1405
    · have hj5 : j + 5 ≤ L := z_l5 ex hL hj c1
      have hi0 : vp_in x L := by rw [ex]; exact vp_in_nI (by omega) (by omega)
      have hi1 : vp_in (x + (1 : Int32)) L := by rw [ex, zi1, nI_add]; exact vp_in_nI (by omega) (by omega)
      have hi2 : vp_in (x + (2 : Int32)) L := by rw [ex, zi2, nI_add]; exact vp_in_nI (by omega) (by omega)
      have hi3 : vp_in (x + (3 : Int32)) L := by rw [ex, zi3, nI_add]; exact vp_in_nI (by omega) (by omega)
      have hi4 : vp_in (x + (4 : Int32)) L := by rw [ex, zi4, nI_add]; exact vp_in_nI (by omega) (by omega)
      refine lv_aload_n hx hb dL_law_26 rfl (lv_at hl 0 rfl) ?_
      refine lv_iload_n hx hb dL_law_27 rfl (lv_at hl 3 rfl) ?_
      refine va_sld hx hb hX hbl hbA hS hi0 dL_law_28 ?_
      refine lv_bipush (v := 63) hx hb dL_law_29 (by decide) ?_
      refine lv_iand hx hb dL_law_31 ?_
      obtain ⟨t, ht, et⟩ := pk_andE (xs x.toNatClampNeg) (m := 63) 6 (by decide)
      rw [et]
      have nx : ∀ (x_textFault : Int32) (x_readFault : Int32) (L_draws : Int32) (L_foot : Int32) (L_point : Int32) (L_stiff : Int32) (L_bears : Int32) (L_year : Int32) (L_traits : Nat → Int32) (T_draws : Int32) (T_foot : Int32) (T_point : Int32) (T_stiff : Int32) (T_bears : Int32) (T_year : Int32) (T_traits : Nat → Int32) (A0_draws : Int32) (A0_foot : Int32) (A0_point : Int32) (A0_stiff : Int32) (A0_bears : Int32) (A0_year : Int32) (A0_traits : Nat → Int32) (A1_draws : Int32) (A1_foot : Int32) (A1_point : Int32) (A1_stiff : Int32) (A1_bears : Int32) (A1_year : Int32) (A1_traits : Nat → Int32) (x_kept : Nat → Int32) (P_length : Int32) (P_place : Int32) (P_token : Int32) (P_tokenPlace : Int32) (P_number : Int32) (P_told : Int32) (P_fault : Int32) (P_faultPlace : Int32) (P_bytes : Nat → Int32) (N_size : Int32) (N_years : Nat → Int32) (N_cells : Nat → Int32) (D_whole : Int64) (D_weights : Nat → Int64) (D_later : Nat → Int64) (S0_lane : Int32) (S0_size : Int32) (S0_cells : Nat → Int32) (S1_lane : Int32) (S1_size : Int32) (S1_cells : Nat → Int32) (S2_lane : Int32) (S2_size : Int32) (S2_cells : Nat → Int32) (S3_lane : Int32) (S3_size : Int32) (S3_cells : Nat → Int32) (x_tally : Nat → Int32) (x_points : Nat → Int32) (m_toldOnce : Int32) (m_taped : Int32) (m_fault : Int32) (m_broken : Int32) (m_brokenAt : Int32) (m_spot : Int32) (m_here : Int32) (m_token : Int32) (m_value : Int32) (m_silent : Int32) (m_greatest : Int32) (m_moves : Int32) (m_holders : Int32) (m_seenMany : Int32) (m_torn : Int32) (m_state : Nat → Int32) (m_readPage : Nat → Int32) (m_tape : Nat → Int32) (m_cuts : Nat → Int32) (m_letters : Nat → Int32) (m_seen : Nat → Int32) (m_pointBy : Nat → Int32) (m_isKept : Nat → Int32) (m_lanes : Nat → Int32) (m_lengths : Nat → Int32) (m_sheetCells : Nat → Int32), zRel L_draws L_foot L_point L_stiff L_bears L_year L_traits A0_draws A0_foot A0_point A0_stiff A0_bears A0_year A0_traits A1_draws A1_foot A1_point A1_stiff A1_bears A1_year A1_traits x_kept P_length P_bytes N_size N_years N_cells S0_lane S0_size S0_cells S1_lane S1_size S1_cells S2_lane S2_size S2_cells S3_lane S3_size S3_cells x_textFault x_readFault m_state m_tape m_taped m_fault m_cuts m_letters m_silent m_seen m_seenMany m_isKept m_lanes m_lengths m_sheetCells m_torn → zWL p l e s m b below meth c (lw_Z below #[Value.ref b] s) G [(a_x, .inr (5, [.ref a_L, .ref a_T, .ref a_x_images, .ref a_x_kept, .ref a_P, .ref a_N, .ref a_D, .ref a_x_sheets, .ref a_x_points, .ref a_x_tally, .int x_textFault, .int x_readFault])), (a_L, .inr (4, [.ref a_L_traits, .int L_draws, .int L_foot, .int L_point, .int L_stiff, .int L_bears, .int L_year])), (a_L_traits, .inl (k 0, 20, .inl L_traits)), (a_T, .inr (4, [.ref a_T_traits, .int T_draws, .int T_foot, .int T_point, .int T_stiff, .int T_bears, .int T_year])), (a_T_traits, .inl (k 0, 20, .inl T_traits)), (a_x_images, .inl (k 4, 2, .inr (.inr (.inr (.inr (fun j => if j = 0 then some a_A0 else if j = 1 then some a_A1 else none)))))), (a_A0, .inr (4, [.ref a_A0_traits, .int A0_draws, .int A0_foot, .int A0_point, .int A0_stiff, .int A0_bears, .int A0_year])), (a_A0_traits, .inl (k 0, 20, .inl A0_traits)), (a_A1, .inr (4, [.ref a_A1_traits, .int A1_draws, .int A1_foot, .int A1_point, .int A1_stiff, .int A1_bears, .int A1_year])), (a_A1_traits, .inl (k 0, 20, .inl A1_traits)), (a_x_kept, .inl (k 3, 2, .inl x_kept)), (a_P, .inr (3, [.ref a_P_bytes, .int P_length, .int P_place, .int P_token, .int P_tokenPlace, .int P_number, .int P_told, .int P_fault, .int P_faultPlace])), (a_P_bytes, .inl (k 1, 160, .inl P_bytes)), (a_N, .inr (2, [.ref a_N_years, .ref a_N_cells, .int N_size])), (a_N_years, .inl (k 0, 6, .inl N_years)), (a_N_cells, .inl (k 0, 6, .inl N_cells)), (a_D, .inr (0, [.ref a_D_weights, .ref a_D_later, .long D_whole])), (a_D_weights, .inl (k 2, 100, .inr (.inl D_weights))), (a_D_later, .inl (k 2, 100, .inr (.inl D_later))), (a_x_sheets, .inl (k 5, 4, .inr (.inr (.inr (.inr (fun j => if j = 0 then some a_S0 else if j = 1 then some a_S1 else if j = 2 then some a_S2 else if j = 3 then some a_S3 else none)))))), (a_S0, .inr (1, [.ref a_S0_cells, .int S0_lane, .int S0_size])), (a_S0_cells, .inl (k 0, 40, .inl S0_cells)), (a_S1, .inr (1, [.ref a_S1_cells, .int S1_lane, .int S1_size])), (a_S1_cells, .inl (k 0, 40, .inl S1_cells)), (a_S2, .inr (1, [.ref a_S2_cells, .int S2_lane, .int S2_size])), (a_S2_cells, .inl (k 0, 40, .inl S2_cells)), (a_S3, .inr (1, [.ref a_S3_cells, .int S3_lane, .int S3_size])), (a_S3_cells, .inl (k 0, 40, .inl S3_cells)), (a_x_tally, .inl (k 0, 100, .inl x_tally)), (a_x_points, .inl (k 0, 21, .inl x_points)), (a_m, .inr (6, [.ref a_m_state, .ref a_m_readPage, .int m_toldOnce, .ref a_m_tape, .int m_taped, .int m_fault, .int m_broken, .int m_brokenAt, .int m_spot, .int m_here, .int m_token, .int m_value, .ref a_m_cuts, .ref a_m_letters, .int m_silent, .int m_greatest, .int m_moves, .int m_holders, .ref a_m_seen, .int m_seenMany, .ref a_m_pointBy, .ref a_m_isKept, .ref a_m_lanes, .ref a_m_lengths, .ref a_m_sheetCells, .int m_torn])), (a_m_state, .inl (k 0, 156, .inl m_state)), (a_m_readPage, .inl (k 0, 26, .inl m_readPage)), (a_m_tape, .inl (k 0, 160, .inl m_tape)), (a_m_cuts, .inl (k 0, 8, .inl m_cuts)), (a_m_letters, .inl (k 0, 37, .inl m_letters)), (a_m_seen, .inl (k 0, 12, .inl m_seen)), (a_m_pointBy, .inl (k 0, 651, .inl m_pointBy)), (a_m_isKept, .inl (k 3, 2, .inl m_isKept)), (a_m_lanes, .inl (k 0, 4, .inl m_lanes)), (a_m_lengths, .inl (k 0, 4, .inl m_lengths)), (a_m_sheetCells, .inl (k 0, 160, .inl m_sheetCells))] [(0, .ref b), (1, .ref a_x), (2, .ref a_m), (3, .int x)] 1398 [] := by
        intro x_textFault x_readFault L_draws L_foot L_point L_stiff L_bears L_year L_traits T_draws T_foot T_point T_stiff T_bears T_year T_traits A0_draws A0_foot A0_point A0_stiff A0_bears A0_year A0_traits A1_draws A1_foot A1_point A1_stiff A1_bears A1_year A1_traits x_kept P_length P_place P_token P_tokenPlace P_number P_told P_fault P_faultPlace P_bytes N_size N_years N_cells D_whole D_weights D_later S0_lane S0_size S0_cells S1_lane S1_size S1_cells S2_lane S2_size S2_cells S3_lane S3_size S3_cells x_tally x_points m_toldOnce m_taped m_fault m_broken m_brokenAt m_spot m_here m_token m_value m_silent m_greatest m_moves m_holders m_seenMany m_torn m_state m_readPage m_tape m_cuts m_letters m_seen m_pointBy m_isKept m_lanes m_lengths m_sheetCells hR H locs ls hP hD hS hl
        refine lv_iinc (v := x + 5) (lv' := [(3, .int (x + 5)), (0, .ref b), (1, .ref a_x), (2, .ref a_m)]) hx hb dL_law_1398 hl (k := 3) rfl rfl (by decide) rfl (fun ls hl => ?_)
        refine lv_goto (tgt := 18) hx hb dL_law_1401 (by decide) ?_
        exact ih (j + 5) _ _ _ _ _ _ _ _ _ _ _ _ _ _ _ _ _ _ _ _ _ _ _ _ _ _ _ _ _ _ _ _ _ _ _ _ _ _ _ _ _ _ _ _ _ _ _ _ _ _ _ _ _ _ _ _ _ _ _ _ _ _ _ _ _ _ _ _ _ _ _ _ _ _ _ _ _ _ _ _ _ _ _ _ _ _ (x + 5) (by rw [ex, zi5, nI_add]) hj5 (by omega) hR H locs ls hP hD hS (lv_sub hl [1, 2, 3, 0] rfl)
      by_cases c2 : t = 0
      · subst c2
        refine lv_tableIn (off := 180) (tgt := 212) hx hb dL_law_32 (by decide) (by decide) (by decide) (by decide) ?_
        obtain ⟨oX5, oX6, h1, h2, h3, hR2⟩ := q_feed  (xs (x + (1 : Int32)).toNatClampNeg) hR
        exact law_feed C0 hi1 hi2 hi3 hi4 h1 h2 h3 (nx _ _ _ _ _ _ _ _ _ _ _ _ _ _ _ _ _ _ _ _ _ _ _ _ _ _ _ _ _ _ _ _ _ _ _ _ _ _ _ _ _ _ _ _ _ _ _ _ _ _ _ _ _ _ _ _ _ _ _ _ _ _ _ _ _ _ _ _ _ _ _ _ _ _ _ _ _ _ _ _ _ _ _ _ _ _ hR2) H locs ls hP hD hS hl
      · skip
        by_cases c3 : t = 1
        · subst c3
          refine lv_tableIn (off := 203) (tgt := 235) hx hb dL_law_32 (by decide) (by decide) (by decide) (by decide) ?_
          obtain ⟨oX5, oX6, h1, h2, h3, hR2⟩ := q_end  (xs (x + (1 : Int32)).toNatClampNeg) hR
          exact law_end C0 hi1 hi2 hi3 hi4 h1 h2 h3 (nx _ _ _ _ _ _ _ _ _ _ _ _ _ _ _ _ _ _ _ _ _ _ _ _ _ _ _ _ _ _ _ _ _ _ _ _ _ _ _ _ _ _ _ _ _ _ _ _ _ _ _ _ _ _ _ _ _ _ _ _ _ _ _ _ _ _ _ _ _ _ _ _ _ _ _ _ _ _ _ _ _ _ _ _ _ _ hR2) H locs ls hP hD hS hl
        · skip
          by_cases c4 : t = 2
          · subst c4
            refine lv_tableIn (off := 226) (tgt := 258) hx hb dL_law_32 (by decide) (by decide) (by decide) (by decide) ?_
            obtain ⟨oX5, oX6, h1, h2, h3, hR2⟩ := q_text T_traits P_token P_tokenPlace P_number m_brokenAt m_here m_token m_value m_readPage  hR
            exact law_text C0 hi1 hi2 hi3 hi4 h1 h2 h3 (nx _ _ _ _ _ _ _ _ _ _ _ _ _ _ _ _ _ _ _ _ _ _ _ _ _ _ _ _ _ _ _ _ _ _ _ _ _ _ _ _ _ _ _ _ _ _ _ _ _ _ _ _ _ _ _ _ _ _ _ _ _ _ _ _ _ _ _ _ _ _ _ _ _ _ _ _ _ _ _ _ _ _ _ _ _ _ hR2) H locs ls hP hD hS hl
          · skip
            by_cases c5 : t = 3
            · subst c5
              refine lv_tableIn (off := 239) (tgt := 271) hx hb dL_law_32 (by decide) (by decide) (by decide) (by decide) ?_
              obtain ⟨oX5, oX6, h1, h2, h3, hR2⟩ := q_fault   hR
              exact law_fault C0 hi1 hi2 hi3 hi4 h1 h2 h3 (nx _ _ _ _ _ _ _ _ _ _ _ _ _ _ _ _ _ _ _ _ _ _ _ _ _ _ _ _ _ _ _ _ _ _ _ _ _ _ _ _ _ _ _ _ _ _ _ _ _ _ _ _ _ _ _ _ _ _ _ _ _ _ _ _ _ _ _ _ _ _ _ _ _ _ _ _ _ _ _ _ _ _ _ _ _ _ hR2) H locs ls hP hD hS hl
            · skip
              by_cases c6 : t = 4
              · subst c6
                refine lv_tableIn (off := 252) (tgt := 284) hx hb dL_law_32 (by decide) (by decide) (by decide) (by decide) ?_
                obtain ⟨oX5, oX6, h1, h2, h3, hR2⟩ := q_rule  (xs (x + (1 : Int32)).toNatClampNeg) hR
                exact law_rule C0 hi1 hi2 hi3 hi4 h1 h2 h3 (nx _ _ _ _ _ _ _ _ _ _ _ _ _ _ _ _ _ _ _ _ _ _ _ _ _ _ _ _ _ _ _ _ _ _ _ _ _ _ _ _ _ _ _ _ _ _ _ _ _ _ _ _ _ _ _ _ _ _ _ _ _ _ _ _ _ _ _ _ _ _ _ _ _ _ _ _ _ _ _ _ _ _ _ _ _ _ hR2) H locs ls hP hD hS hl
              · skip
                by_cases c7 : t = 5
                · subst c7
                  refine lv_tableIn (off := 275) (tgt := 307) hx hb dL_law_32 (by decide) (by decide) (by decide) (by decide) ?_
                  obtain ⟨oX5, oX6, h1, h2, h3, hR2⟩ := q_draw  (xs (x + (1 : Int32)).toNatClampNeg) (xs (x + (2 : Int32)).toNatClampNeg) hR
                  exact law_draw C0 hi1 hi2 hi3 hi4 h1 h2 h3 (nx _ _ _ _ _ _ _ _ _ _ _ _ _ _ _ _ _ _ _ _ _ _ _ _ _ _ _ _ _ _ _ _ _ _ _ _ _ _ _ _ _ _ _ _ _ _ _ _ _ _ _ _ _ _ _ _ _ _ _ _ _ _ _ _ _ _ _ _ _ _ _ _ _ _ _ _ _ _ _ _ _ _ _ _ _ _ hR2) H locs ls hP hD hS hl
                · skip
                  by_cases c8 : t = 6
                  · subst c8
                    refine lv_tableIn (off := 308) (tgt := 340) hx hb dL_law_32 (by decide) (by decide) (by decide) (by decide) ?_
                    obtain ⟨oX5, oX6, h1, h2, h3, hR2⟩ := q_alter  (xs (x + (1 : Int32)).toNatClampNeg) (xs (x + (2 : Int32)).toNatClampNeg) (xs (x + (3 : Int32)).toNatClampNeg) hR
                    exact law_alter C0 hi1 hi2 hi3 hi4 h1 h2 h3 (nx _ _ _ _ _ _ _ _ _ _ _ _ _ _ _ _ _ _ _ _ _ _ _ _ _ _ _ _ _ _ _ _ _ _ _ _ _ _ _ _ _ _ _ _ _ _ _ _ _ _ _ _ _ _ _ _ _ _ _ _ _ _ _ _ _ _ _ _ _ _ _ _ _ _ _ _ _ _ _ _ _ _ _ _ _ _ hR2) H locs ls hP hD hS hl
                  · skip
                    by_cases c9 : t = 7
                    · subst c9
                      refine lv_tableIn (off := 351) (tgt := 383) hx hb dL_law_32 (by decide) (by decide) (by decide) (by decide) ?_
                      obtain ⟨oX5, oX6, h1, h2, h3, hR2⟩ := q_stiff  (xs (x + (1 : Int32)).toNatClampNeg) hR
                      exact law_stiff C0 hi1 hi2 hi3 hi4 h1 h2 h3 (nx _ _ _ _ _ _ _ _ _ _ _ _ _ _ _ _ _ _ _ _ _ _ _ _ _ _ _ _ _ _ _ _ _ _ _ _ _ _ _ _ _ _ _ _ _ _ _ _ _ _ _ _ _ _ _ _ _ _ _ _ _ _ _ _ _ _ _ _ _ _ _ _ _ _ _ _ _ _ _ _ _ _ _ _ _ _ hR2) H locs ls hP hD hS hl
                    · skip
                      by_cases c10 : t = 8
                      · subst c10
                        refine lv_tableIn (off := 374) (tgt := 406) hx hb dL_law_32 (by decide) (by decide) (by decide) (by decide) ?_
                        obtain ⟨oX5, oX6, h1, h2, h3, hR2⟩ := q_bears  (xs (x + (1 : Int32)).toNatClampNeg) hR
                        exact law_bears C0 hi1 hi2 hi3 hi4 h1 h2 h3 (nx _ _ _ _ _ _ _ _ _ _ _ _ _ _ _ _ _ _ _ _ _ _ _ _ _ _ _ _ _ _ _ _ _ _ _ _ _ _ _ _ _ _ _ _ _ _ _ _ _ _ _ _ _ _ _ _ _ _ _ _ _ _ _ _ _ _ _ _ _ _ _ _ _ _ _ _ _ _ _ _ _ _ _ _ _ _ hR2) H locs ls hP hD hS hl
                      · skip
                        by_cases c11 : t = 9
                        · subst c11
                          refine lv_tableIn (off := 397) (tgt := 429) hx hb dL_law_32 (by decide) (by decide) (by decide) (by decide) ?_
                          obtain ⟨oX5, oX6, h1, h2, h3, hR2⟩ := q_bend  (xs (x + (1 : Int32)).toNatClampNeg) hR
                          exact law_bend C0 hi1 hi2 hi3 hi4 h1 h2 h3 (nx _ _ _ _ _ _ _ _ _ _ _ _ _ _ _ _ _ _ _ _ _ _ _ _ _ _ _ _ _ _ _ _ _ _ _ _ _ _ _ _ _ _ _ _ _ _ _ _ _ _ _ _ _ _ _ _ _ _ _ _ _ _ _ _ _ _ _ _ _ _ _ _ _ _ _ _ _ _ _ _ _ _ _ _ _ _ hR2) H locs ls hP hD hS hl
                        · skip
                          by_cases c12 : t = 10
                          · subst c12
                            refine lv_tableIn (off := 420) (tgt := 452) hx hb dL_law_32 (by decide) (by decide) (by decide) (by decide) ?_
                            obtain ⟨oX5, oX6, h1, h2, h3, hR2⟩ := q_put  (xs (x + (1 : Int32)).toNatClampNeg) (xs (x + (2 : Int32)).toNatClampNeg) (xs (x + (3 : Int32)).toNatClampNeg) hR
                            exact law_put C0 hi1 hi2 hi3 hi4 h1 h2 h3 (nx _ _ _ _ _ _ _ _ _ _ _ _ _ _ _ _ _ _ _ _ _ _ _ _ _ _ _ _ _ _ _ _ _ _ _ _ _ _ _ _ _ _ _ _ _ _ _ _ _ _ _ _ _ _ _ _ _ _ _ _ _ _ _ _ _ _ _ _ _ _ _ _ _ _ _ _ _ _ _ _ _ _ _ _ _ _ hR2) H locs ls hP hD hS hl
                          · skip
                            by_cases c13 : t = 11
                            · subst c13
                              refine lv_tableIn (off := 463) (tgt := 495) hx hb dL_law_32 (by decide) (by decide) (by decide) (by decide) ?_
                              obtain ⟨oX5, oX6, h1, h2, h3, hR2⟩ := q_raze  (xs (x + (1 : Int32)).toNatClampNeg) hR
                              exact law_raze C0 hi1 hi2 hi3 hi4 h1 h2 h3 (nx _ _ _ _ _ _ _ _ _ _ _ _ _ _ _ _ _ _ _ _ _ _ _ _ _ _ _ _ _ _ _ _ _ _ _ _ _ _ _ _ _ _ _ _ _ _ _ _ _ _ _ _ _ _ _ _ _ _ _ _ _ _ _ _ _ _ _ _ _ _ _ _ _ _ _ _ _ _ _ _ _ _ _ _ _ _ hR2) H locs ls hP hD hS hl
                            · skip
                              by_cases c14 : t = 12
                              · subst c14
                                refine lv_tableIn (off := 486) (tgt := 518) hx hb dL_law_32 (by decide) (by decide) (by decide) (by decide) ?_
                                obtain ⟨oX5, oX6, h1, h2, h3, hR2⟩ := q_years  (xs (x + (1 : Int32)).toNatClampNeg) hR
                                exact law_years C0 hi1 hi2 hi3 hi4 h1 h2 h3 (nx _ _ _ _ _ _ _ _ _ _ _ _ _ _ _ _ _ _ _ _ _ _ _ _ _ _ _ _ _ _ _ _ _ _ _ _ _ _ _ _ _ _ _ _ _ _ _ _ _ _ _ _ _ _ _ _ _ _ _ _ _ _ _ _ _ _ _ _ _ _ _ _ _ _ _ _ _ _ _ _ _ _ _ _ _ _ hR2) H locs ls hP hD hS hl
                              · skip
                                by_cases c15 : t = 13
                                · subst c15
                                  refine lv_tableIn (off := 509) (tgt := 541) hx hb dL_law_32 (by decide) (by decide) (by decide) (by decide) ?_
                                  obtain ⟨oX5, oX6, h1, h2, h3, hR2⟩ := q_runs T_draws T_foot T_point T_stiff T_bears T_year T_traits m_greatest m_moves m_holders (xs (x + (1 : Int32)).toNatClampNeg) (xs (x + (2 : Int32)).toNatClampNeg) hR
                                  exact law_runs C0 hi1 hi2 hi3 hi4 h1 h2 h3 (nx _ _ _ _ _ _ _ _ _ _ _ _ _ _ _ _ _ _ _ _ _ _ _ _ _ _ _ _ _ _ _ _ _ _ _ _ _ _ _ _ _ _ _ _ _ _ _ _ _ _ _ _ _ _ _ _ _ _ _ _ _ _ _ _ _ _ _ _ _ _ _ _ _ _ _ _ _ _ _ _ _ _ _ _ _ _ hR2) H locs ls hP hD hS hl
                                · skip
                                  by_cases c16 : t = 14
                                  · subst c16
                                    refine lv_tableIn (off := 542) (tgt := 574) hx hb dL_law_32 (by decide) (by decide) (by decide) (by decide) ?_
                                    obtain ⟨oX5, oX6, h1, h2, h3, hR2⟩ := q_falls T_traits  hR
                                    exact law_falls C0 hi1 hi2 hi3 hi4 h1 h2 h3 (nx _ _ _ _ _ _ _ _ _ _ _ _ _ _ _ _ _ _ _ _ _ _ _ _ _ _ _ _ _ _ _ _ _ _ _ _ _ _ _ _ _ _ _ _ _ _ _ _ _ _ _ _ _ _ _ _ _ _ _ _ _ _ _ _ _ _ _ _ _ _ _ _ _ _ _ _ _ _ _ _ _ _ _ _ _ _ hR2) H locs ls hP hD hS hl
                                  · skip
                                    by_cases c17 : t = 15
                                    · subst c17
                                      refine lv_tableIn (off := 555) (tgt := 587) hx hb dL_law_32 (by decide) (by decide) (by decide) (by decide) ?_
                                      obtain ⟨oX5, oX6, h1, h2, h3, hR2⟩ := q_comes T_draws T_foot T_point T_stiff T_bears T_year T_traits (xs (x + (1 : Int32)).toNatClampNeg) hR
                                      exact law_comes C0 hi1 hi2 hi3 hi4 h1 h2 h3 (nx _ _ _ _ _ _ _ _ _ _ _ _ _ _ _ _ _ _ _ _ _ _ _ _ _ _ _ _ _ _ _ _ _ _ _ _ _ _ _ _ _ _ _ _ _ _ _ _ _ _ _ _ _ _ _ _ _ _ _ _ _ _ _ _ _ _ _ _ _ _ _ _ _ _ _ _ _ _ _ _ _ _ _ _ _ _ hR2) H locs ls hP hD hS hl
                                    · skip
                                      by_cases c18 : t = 16
                                      · subst c18
                                        refine lv_tableIn (off := 578) (tgt := 610) hx hb dL_law_32 (by decide) (by decide) (by decide) (by decide) ?_
                                        obtain ⟨oX5, oX6, h1, h2, h3, hR2⟩ := q_share T_draws T_foot T_point T_stiff T_bears T_year T_traits (xs (x + (1 : Int32)).toNatClampNeg) (xs (x + (2 : Int32)).toNatClampNeg) (xs (x + (3 : Int32)).toNatClampNeg) hR
                                        exact law_share C0 hi1 hi2 hi3 hi4 h1 h2 h3 (nx _ _ _ _ _ _ _ _ _ _ _ _ _ _ _ _ _ _ _ _ _ _ _ _ _ _ _ _ _ _ _ _ _ _ _ _ _ _ _ _ _ _ _ _ _ _ _ _ _ _ _ _ _ _ _ _ _ _ _ _ _ _ _ _ _ _ _ _ _ _ _ _ _ _ _ _ _ _ _ _ _ _ _ _ _ _ hR2) H locs ls hP hD hS hl
                                      · skip
                                        by_cases c19 : t = 17
                                        · subst c19
                                          refine lv_tableIn (off := 622) (tgt := 654) hx hb dL_law_32 (by decide) (by decide) (by decide) (by decide) ?_
                                          obtain ⟨oX5, oX6, h1, h2, h3, hR2⟩ := q_turn T_traits  hR
                                          exact law_turn C0 hi1 hi2 hi3 hi4 h1 h2 h3 (nx _ _ _ _ _ _ _ _ _ _ _ _ _ _ _ _ _ _ _ _ _ _ _ _ _ _ _ _ _ _ _ _ _ _ _ _ _ _ _ _ _ _ _ _ _ _ _ _ _ _ _ _ _ _ _ _ _ _ _ _ _ _ _ _ _ _ _ _ _ _ _ _ _ _ _ _ _ _ _ _ _ _ _ _ _ _ hR2) H locs ls hP hD hS hl
                                        · skip
                                          by_cases c20 : t = 18
                                          · subst c20
                                            refine lv_tableIn (off := 635) (tgt := 667) hx hb dL_law_32 (by decide) (by decide) (by decide) (by decide) ?_
                                            obtain ⟨oX5, oX6, h1, h2, h3, hR2⟩ := q_need T_draws T_foot T_point T_stiff T_bears T_year T_traits m_greatest m_moves m_holders  hR
                                            exact law_need C0 hi1 hi2 hi3 hi4 h1 h2 h3 (nx _ _ _ _ _ _ _ _ _ _ _ _ _ _ _ _ _ _ _ _ _ _ _ _ _ _ _ _ _ _ _ _ _ _ _ _ _ _ _ _ _ _ _ _ _ _ _ _ _ _ _ _ _ _ _ _ _ _ _ _ _ _ _ _ _ _ _ _ _ _ _ _ _ _ _ _ _ _ _ _ _ _ _ _ _ _ hR2) H locs ls hP hD hS hl
                                          · skip
                                            by_cases c21 : t = 19
                                            · subst c21
                                              refine lv_tableIn (off := 648) (tgt := 680) hx hb dL_law_32 (by decide) (by decide) (by decide) (by decide) ?_
                                              obtain ⟨oX5, oX6, h1, h2, h3, hR2⟩ := q_brace T_draws T_foot T_point T_stiff T_bears T_year T_traits m_greatest m_moves m_holders  hR
                                              exact law_brace C0 hi1 hi2 hi3 hi4 h1 h2 h3 (nx _ _ _ _ _ _ _ _ _ _ _ _ _ _ _ _ _ _ _ _ _ _ _ _ _ _ _ _ _ _ _ _ _ _ _ _ _ _ _ _ _ _ _ _ _ _ _ _ _ _ _ _ _ _ _ _ _ _ _ _ _ _ _ _ _ _ _ _ _ _ _ _ _ _ _ _ _ _ _ _ _ _ _ _ _ _ hR2) H locs ls hP hD hS hl
                                            · skip
                                              by_cases c22 : t = 20
                                              · subst c22
                                                refine lv_tableIn (off := 661) (tgt := 693) hx hb dL_law_32 (by decide) (by decide) (by decide) (by decide) ?_
                                                obtain ⟨oX5, oX6, h1, h2, h3, hR2⟩ := q_lure T_draws T_foot T_point T_stiff T_bears T_year T_traits (xs (x + (1 : Int32)).toNatClampNeg) (xs (x + (2 : Int32)).toNatClampNeg) hR
                                                exact law_lure C0 hi1 hi2 hi3 hi4 h1 h2 h3 (nx _ _ _ _ _ _ _ _ _ _ _ _ _ _ _ _ _ _ _ _ _ _ _ _ _ _ _ _ _ _ _ _ _ _ _ _ _ _ _ _ _ _ _ _ _ _ _ _ _ _ _ _ _ _ _ _ _ _ _ _ _ _ _ _ _ _ _ _ _ _ _ _ _ _ _ _ _ _ _ _ _ _ _ _ _ _ hR2) H locs ls hP hD hS hl
                                              · skip
                                                by_cases c23 : t = 21
                                                · subst c23
                                                  refine lv_tableIn (off := 694) (tgt := 726) hx hb dL_law_32 (by decide) (by decide) (by decide) (by decide) ?_
                                                  obtain ⟨oX5, oX6, h1, h2, h3, hR2⟩ := q_site T_draws T_foot T_point T_stiff T_bears T_year T_traits (xs (x + (1 : Int32)).toNatClampNeg) (xs (x + (2 : Int32)).toNatClampNeg) (xs (x + (3 : Int32)).toNatClampNeg) (xs (x + (4 : Int32)).toNatClampNeg) hR
                                                  exact law_site C0 hi1 hi2 hi3 hi4 h1 h2 h3 (nx _ _ _ _ _ _ _ _ _ _ _ _ _ _ _ _ _ _ _ _ _ _ _ _ _ _ _ _ _ _ _ _ _ _ _ _ _ _ _ _ _ _ _ _ _ _ _ _ _ _ _ _ _ _ _ _ _ _ _ _ _ _ _ _ _ _ _ _ _ _ _ _ _ _ _ _ _ _ _ _ _ _ _ _ _ _ hR2) H locs ls hP hD hS hl
                                                · skip
                                                  by_cases c24 : t = 22
                                                  · subst c24
                                                    refine lv_tableIn (off := 747) (tgt := 779) hx hb dL_law_32 (by decide) (by decide) (by decide) (by decide) ?_
                                                    obtain ⟨oX5, oX6, h1, h2, h3, hR2⟩ := q_hush T_draws T_foot T_point T_stiff T_bears T_year T_traits m_greatest m_moves m_holders (xs (x + (1 : Int32)).toNatClampNeg) hR
                                                    exact law_hush C0 hi1 hi2 hi3 hi4 h1 h2 h3 (nx _ _ _ _ _ _ _ _ _ _ _ _ _ _ _ _ _ _ _ _ _ _ _ _ _ _ _ _ _ _ _ _ _ _ _ _ _ _ _ _ _ _ _ _ _ _ _ _ _ _ _ _ _ _ _ _ _ _ _ _ _ _ _ _ _ _ _ _ _ _ _ _ _ _ _ _ _ _ _ _ _ _ _ _ _ _ hR2) H locs ls hP hD hS hl
                                                  · skip
                                                    by_cases c25 : t = 23
                                                    · subst c25
                                                      refine lv_tableIn (off := 770) (tgt := 802) hx hb dL_law_32 (by decide) (by decide) (by decide) (by decide) ?_
                                                      obtain ⟨oX5, oX6, h1, h2, h3, hR2⟩ := q_swap T_draws T_foot T_point T_stiff T_bears T_year T_traits m_greatest m_moves m_holders (xs (x + (1 : Int32)).toNatClampNeg) hR
                                                      exact law_swap C0 hi1 hi2 hi3 hi4 h1 h2 h3 (nx _ _ _ _ _ _ _ _ _ _ _ _ _ _ _ _ _ _ _ _ _ _ _ _ _ _ _ _ _ _ _ _ _ _ _ _ _ _ _ _ _ _ _ _ _ _ _ _ _ _ _ _ _ _ _ _ _ _ _ _ _ _ _ _ _ _ _ _ _ _ _ _ _ _ _ _ _ _ _ _ _ _ _ _ _ _ hR2) H locs ls hP hD hS hl
                                                    · skip
                                                      by_cases c26 : t = 24
                                                      · subst c26
                                                        refine lv_tableIn (off := 793) (tgt := 825) hx hb dL_law_32 (by decide) (by decide) (by decide) (by decide) ?_
                                                        obtain ⟨oX5, oX6, h1, h2, h3, hR2⟩ := q_kind T_draws T_foot T_point T_stiff T_bears T_year T_traits m_greatest m_moves m_holders (xs (x + (1 : Int32)).toNatClampNeg) (xs (x + (2 : Int32)).toNatClampNeg) (xs (x + (3 : Int32)).toNatClampNeg) hR
                                                        exact law_kind C0 hi1 hi2 hi3 hi4 h1 h2 h3 (nx _ _ _ _ _ _ _ _ _ _ _ _ _ _ _ _ _ _ _ _ _ _ _ _ _ _ _ _ _ _ _ _ _ _ _ _ _ _ _ _ _ _ _ _ _ _ _ _ _ _ _ _ _ _ _ _ _ _ _ _ _ _ _ _ _ _ _ _ _ _ _ _ _ _ _ _ _ _ _ _ _ _ _ _ _ _ hR2) H locs ls hP hD hS hl
                                                      · skip
                                                        by_cases c27 : t = 25
                                                        · subst c27
                                                          refine lv_tableIn (off := 836) (tgt := 868) hx hb dL_law_32 (by decide) (by decide) (by decide) (by decide) ?_
                                                          obtain ⟨oX5, oX6, h1, h2, h3, hR2⟩ := q_luck T_draws T_foot T_point T_stiff T_bears T_year T_traits D_whole D_weights D_later (xs (x + (1 : Int32)).toNatClampNeg) (xs (x + (2 : Int32)).toNatClampNeg) (xs (x + (3 : Int32)).toNatClampNeg) (xs (x + (4 : Int32)).toNatClampNeg) hR
                                                          exact law_luck C0 hi1 hi2 hi3 hi4 h1 h2 h3 (nx _ _ _ _ _ _ _ _ _ _ _ _ _ _ _ _ _ _ _ _ _ _ _ _ _ _ _ _ _ _ _ _ _ _ _ _ _ _ _ _ _ _ _ _ _ _ _ _ _ _ _ _ _ _ _ _ _ _ _ _ _ _ _ _ _ _ _ _ _ _ _ _ _ _ _ _ _ _ _ _ _ _ _ _ _ _ hR2) H locs ls hP hD hS hl
                                                        · skip
                                                          by_cases c28 : t = 26
                                                          · subst c28
                                                            refine lv_tableIn (off := 890) (tgt := 922) hx hb dL_law_32 (by decide) (by decide) (by decide) (by decide) ?_
                                                            obtain ⟨oX5, oX6, h1, h2, h3, hR2⟩ := q_mean T_draws T_foot T_point T_stiff T_bears T_year T_traits D_whole D_weights D_later (xs (x + (1 : Int32)).toNatClampNeg) (xs (x + (2 : Int32)).toNatClampNeg) (xs (x + (3 : Int32)).toNatClampNeg) hR
                                                            exact law_mean C0 hi1 hi2 hi3 hi4 h1 h2 h3 (nx _ _ _ _ _ _ _ _ _ _ _ _ _ _ _ _ _ _ _ _ _ _ _ _ _ _ _ _ _ _ _ _ _ _ _ _ _ _ _ _ _ _ _ _ _ _ _ _ _ _ _ _ _ _ _ _ _ _ _ _ _ _ _ _ _ _ _ _ _ _ _ _ _ _ _ _ _ _ _ _ _ _ _ _ _ _ hR2) H locs ls hP hD hS hl
                                                          · skip
                                                            by_cases c29 : t = 27
                                                            · subst c29
                                                              refine lv_tableIn (off := 934) (tgt := 966) hx hb dL_law_32 (by decide) (by decide) (by decide) (by decide) ?_
                                                              obtain ⟨oX5, oX6, h1, h2, h3, hR2⟩ := q_see  (xs (x + (1 : Int32)).toNatClampNeg) (xs (x + (2 : Int32)).toNatClampNeg) hR
                                                              exact law_see C0 hi1 hi2 hi3 hi4 h1 h2 h3 (nx _ _ _ _ _ _ _ _ _ _ _ _ _ _ _ _ _ _ _ _ _ _ _ _ _ _ _ _ _ _ _ _ _ _ _ _ _ _ _ _ _ _ _ _ _ _ _ _ _ _ _ _ _ _ _ _ _ _ _ _ _ _ _ _ _ _ _ _ _ _ _ _ _ _ _ _ _ _ _ _ _ _ _ _ _ _ hR2) H locs ls hP hD hS hl
                                                            · skip
                                                              by_cases c30 : t = 28
                                                              · subst c30
                                                                refine lv_tableIn (off := 967) (tgt := 999) hx hb dL_law_32 (by decide) (by decide) (by decide) (by decide) ?_
                                                                obtain ⟨oX5, oX6, h1, h2, h3, hR2⟩ := q_forget  (xs (x + (1 : Int32)).toNatClampNeg) hR
                                                                exact law_forget C0 hi1 hi2 hi3 hi4 h1 h2 h3 (nx _ _ _ _ _ _ _ _ _ _ _ _ _ _ _ _ _ _ _ _ _ _ _ _ _ _ _ _ _ _ _ _ _ _ _ _ _ _ _ _ _ _ _ _ _ _ _ _ _ _ _ _ _ _ _ _ _ _ _ _ _ _ _ _ _ _ _ _ _ _ _ _ _ _ _ _ _ _ _ _ _ _ _ _ _ _ hR2) H locs ls hP hD hS hl
                                                              · skip
                                                                by_cases c31 : t = 29
                                                                · subst c31
                                                                  refine lv_tableIn (off := 990) (tgt := 1022) hx hb dL_law_32 (by decide) (by decide) (by decide) (by decide) ?_
                                                                  obtain ⟨oX5, oX6, h1, h2, h3, hR2⟩ := q_kinds T_draws T_foot T_point T_stiff T_bears T_year T_traits m_pointBy (xs (x + (1 : Int32)).toNatClampNeg) hR
                                                                  exact law_kinds C0 hi1 hi2 hi3 hi4 h1 h2 h3 (nx _ _ _ _ _ _ _ _ _ _ _ _ _ _ _ _ _ _ _ _ _ _ _ _ _ _ _ _ _ _ _ _ _ _ _ _ _ _ _ _ _ _ _ _ _ _ _ _ _ _ _ _ _ _ _ _ _ _ _ _ _ _ _ _ _ _ _ _ _ _ _ _ _ _ _ _ _ _ _ _ _ _ _ _ _ _ hR2) H locs ls hP hD hS hl
                                                                · skip
                                                                  by_cases c32 : t = 30
                                                                  · subst c32
                                                                    refine lv_tableIn (off := 1013) (tgt := 1045) hx hb dL_law_32 (by decide) (by decide) (by decide) (by decide) ?_
                                                                    obtain ⟨oX5, oX6, h1, h2, h3, hR2⟩ := q_pulls T_draws T_foot T_point T_stiff T_bears T_year T_traits m_pointBy (xs (x + (1 : Int32)).toNatClampNeg) hR
                                                                    exact law_pulls C0 hi1 hi2 hi3 hi4 h1 h2 h3 (nx _ _ _ _ _ _ _ _ _ _ _ _ _ _ _ _ _ _ _ _ _ _ _ _ _ _ _ _ _ _ _ _ _ _ _ _ _ _ _ _ _ _ _ _ _ _ _ _ _ _ _ _ _ _ _ _ _ _ _ _ _ _ _ _ _ _ _ _ _ _ _ _ _ _ _ _ _ _ _ _ _ _ _ _ _ _ hR2) H locs ls hP hD hS hl
                                                                  · skip
                                                                    by_cases c33 : t = 31
                                                                    · subst c33
                                                                      refine lv_tableIn (off := 1036) (tgt := 1068) hx hb dL_law_32 (by decide) (by decide) (by decide) (by decide) ?_
                                                                      obtain ⟨oX5, oX6, h1, h2, h3, hR2⟩ := q_spots T_draws T_foot T_point T_stiff T_bears T_year T_traits m_pointBy (xs (x + (1 : Int32)).toNatClampNeg) (xs (x + (2 : Int32)).toNatClampNeg) hR
                                                                      exact law_spots C0 hi1 hi2 hi3 hi4 h1 h2 h3 (nx _ _ _ _ _ _ _ _ _ _ _ _ _ _ _ _ _ _ _ _ _ _ _ _ _ _ _ _ _ _ _ _ _ _ _ _ _ _ _ _ _ _ _ _ _ _ _ _ _ _ _ _ _ _ _ _ _ _ _ _ _ _ _ _ _ _ _ _ _ _ _ _ _ _ _ _ _ _ _ _ _ _ _ _ _ _ hR2) H locs ls hP hD hS hl
                                                                    · skip
                                                                      by_cases c34 : t = 32
                                                                      · subst c34
                                                                        refine lv_tableIn (off := 1069) (tgt := 1101) hx hb dL_law_32 (by decide) (by decide) (by decide) (by decide) ?_
                                                                        obtain ⟨oX5, oX6, h1, h2, h3, hR2⟩ := q_ask T_draws T_foot T_point T_stiff T_bears T_year T_traits x_tally x_points m_pointBy (xs (x + (1 : Int32)).toNatClampNeg) (xs (x + (2 : Int32)).toNatClampNeg) hR
                                                                        exact law_ask C0 hi1 hi2 hi3 hi4 h1 h2 h3 (nx _ _ _ _ _ _ _ _ _ _ _ _ _ _ _ _ _ _ _ _ _ _ _ _ _ _ _ _ _ _ _ _ _ _ _ _ _ _ _ _ _ _ _ _ _ _ _ _ _ _ _ _ _ _ _ _ _ _ _ _ _ _ _ _ _ _ _ _ _ _ _ _ _ _ _ _ _ _ _ _ _ _ _ _ _ _ hR2) H locs ls hP hD hS hl
                                                                      · skip
                                                                        by_cases c35 : t = 33
                                                                        · subst c35
                                                                          refine lv_tableIn (off := 1102) (tgt := 1134) hx hb dL_law_32 (by decide) (by decide) (by decide) (by decide) ?_
                                                                          obtain ⟨oX5, oX6, h1, h2, h3, hR2⟩ := q_drift T_draws T_foot T_point T_stiff T_bears T_year T_traits (xs (x + (1 : Int32)).toNatClampNeg) (xs (x + (2 : Int32)).toNatClampNeg) (xs (x + (3 : Int32)).toNatClampNeg) hR
                                                                          exact law_drift C0 hi1 hi2 hi3 hi4 h1 h2 h3 (nx _ _ _ _ _ _ _ _ _ _ _ _ _ _ _ _ _ _ _ _ _ _ _ _ _ _ _ _ _ _ _ _ _ _ _ _ _ _ _ _ _ _ _ _ _ _ _ _ _ _ _ _ _ _ _ _ _ _ _ _ _ _ _ _ _ _ _ _ _ _ _ _ _ _ _ _ _ _ _ _ _ _ _ _ _ _ hR2) H locs ls hP hD hS hl
                                                                        · skip
                                                                          by_cases c36 : t = 34
                                                                          · subst c36
                                                                            refine lv_tableIn (off := 1145) (tgt := 1177) hx hb dL_law_32 (by decide) (by decide) (by decide) (by decide) ?_
                                                                            obtain ⟨oX5, oX6, h1, h2, h3, hR2⟩ := q_keep  (xs (x + (1 : Int32)).toNatClampNeg) hR
                                                                            exact law_keep C0 hi1 hi2 hi3 hi4 h1 h2 h3 (nx _ _ _ _ _ _ _ _ _ _ _ _ _ _ _ _ _ _ _ _ _ _ _ _ _ _ _ _ _ _ _ _ _ _ _ _ _ _ _ _ _ _ _ _ _ _ _ _ _ _ _ _ _ _ _ _ _ _ _ _ _ _ _ _ _ _ _ _ _ _ _ _ _ _ _ _ _ _ _ _ _ _ _ _ _ _ hR2) H locs ls hP hD hS hl
                                                                          · skip
                                                                            by_cases c37 : t = 35
                                                                            · subst c37
                                                                              refine lv_tableIn (off := 1168) (tgt := 1200) hx hb dL_law_32 (by decide) (by decide) (by decide) (by decide) ?_
                                                                              obtain ⟨oX5, oX6, h1, h2, h3, hR2⟩ := q_back  (xs (x + (1 : Int32)).toNatClampNeg) hR
                                                                              exact law_back C0 hi1 hi2 hi3 hi4 h1 h2 h3 (nx _ _ _ _ _ _ _ _ _ _ _ _ _ _ _ _ _ _ _ _ _ _ _ _ _ _ _ _ _ _ _ _ _ _ _ _ _ _ _ _ _ _ _ _ _ _ _ _ _ _ _ _ _ _ _ _ _ _ _ _ _ _ _ _ _ _ _ _ _ _ _ _ _ _ _ _ _ _ _ _ _ _ _ _ _ _ hR2) H locs ls hP hD hS hl
                                                                            · skip
                                                                              by_cases c38 : t = 36
                                                                              · subst c38
                                                                                refine lv_tableIn (off := 1191) (tgt := 1223) hx hb dL_law_32 (by decide) (by decide) (by decide) (by decide) ?_
                                                                                obtain ⟨oX5, oX6, h1, h2, h3, hR2⟩ := q_sheet  (xs (x + (1 : Int32)).toNatClampNeg) (xs (x + (2 : Int32)).toNatClampNeg) (xs (x + (3 : Int32)).toNatClampNeg) hR
                                                                                exact law_sheet C0 hi1 hi2 hi3 hi4 h1 h2 h3 (nx _ _ _ _ _ _ _ _ _ _ _ _ _ _ _ _ _ _ _ _ _ _ _ _ _ _ _ _ _ _ _ _ _ _ _ _ _ _ _ _ _ _ _ _ _ _ _ _ _ _ _ _ _ _ _ _ _ _ _ _ _ _ _ _ _ _ _ _ _ _ _ _ _ _ _ _ _ _ _ _ _ _ _ _ _ _ hR2) H locs ls hP hD hS hl
                                                                              · skip
                                                                                by_cases c39 : t = 37
                                                                                · subst c39
                                                                                  refine lv_tableIn (off := 1234) (tgt := 1266) hx hb dL_law_32 (by decide) (by decide) (by decide) (by decide) ?_
                                                                                  obtain ⟨oX5, oX6, h1, h2, h3, hR2⟩ := q_lay  (xs (x + (1 : Int32)).toNatClampNeg) (xs (x + (2 : Int32)).toNatClampNeg) (xs (x + (3 : Int32)).toNatClampNeg) hR
                                                                                  exact law_lay C0 hi1 hi2 hi3 hi4 h1 h2 h3 (nx _ _ _ _ _ _ _ _ _ _ _ _ _ _ _ _ _ _ _ _ _ _ _ _ _ _ _ _ _ _ _ _ _ _ _ _ _ _ _ _ _ _ _ _ _ _ _ _ _ _ _ _ _ _ _ _ _ _ _ _ _ _ _ _ _ _ _ _ _ _ _ _ _ _ _ _ _ _ _ _ _ _ _ _ _ _ hR2) H locs ls hP hD hS hl
                                                                                · skip
                                                                                  by_cases c40 : t = 38
                                                                                  · subst c40
                                                                                    refine lv_tableIn (off := 1277) (tgt := 1309) hx hb dL_law_32 (by decide) (by decide) (by decide) (by decide) ?_
                                                                                    obtain ⟨oX5, oX6, h1, h2, h3, hR2⟩ := q_read T_draws T_foot T_point T_stiff T_bears T_year T_traits (xs (x + (1 : Int32)).toNatClampNeg) (xs (x + (2 : Int32)).toNatClampNeg) (xs (x + (3 : Int32)).toNatClampNeg) (xs (x + (4 : Int32)).toNatClampNeg) hR
                                                                                    exact law_read C0 hi1 hi2 hi3 hi4 h1 h2 h3 (nx _ _ _ _ _ _ _ _ _ _ _ _ _ _ _ _ _ _ _ _ _ _ _ _ _ _ _ _ _ _ _ _ _ _ _ _ _ _ _ _ _ _ _ _ _ _ _ _ _ _ _ _ _ _ _ _ _ _ _ _ _ _ _ _ _ _ _ _ _ _ _ _ _ _ _ _ _ _ _ _ _ _ _ _ _ _ hR2) H locs ls hP hD hS hl
                                                                                  · skip
                                                                                    by_cases c41 : t = 39
                                                                                    · subst c41
                                                                                      refine lv_tableIn (off := 1330) (tgt := 1362) hx hb dL_law_32 (by decide) (by decide) (by decide) (by decide) ?_
                                                                                      obtain ⟨oX5, oX6, h1, h2, h3, hR2⟩ := q_torn   hR
                                                                                      exact law_torn C0 hi1 hi2 hi3 hi4 h1 h2 h3 (nx _ _ _ _ _ _ _ _ _ _ _ _ _ _ _ _ _ _ _ _ _ _ _ _ _ _ _ _ _ _ _ _ _ _ _ _ _ _ _ _ _ _ _ _ _ _ _ _ _ _ _ _ _ _ _ _ _ _ _ _ _ _ _ _ _ _ _ _ _ _ _ _ _ _ _ _ _ _ _ _ _ _ _ _ _ _ hR2) H locs ls hP hD hS hl
                                                                                    · skip
                                                                                      by_cases c42 : t = 40
                                                                                      · subst c42
                                                                                        refine lv_tableIn (off := 1343) (tgt := 1375) hx hb dL_law_32 (by decide) (by decide) (by decide) (by decide) ?_
                                                                                        obtain ⟨oX5, oX6, h1, h2, h3, hR2⟩ := q_count  (xs (x + (1 : Int32)).toNatClampNeg) hR
                                                                                        exact law_count C0 hi1 hi2 hi3 hi4 h1 h2 h3 (nx _ _ _ _ _ _ _ _ _ _ _ _ _ _ _ _ _ _ _ _ _ _ _ _ _ _ _ _ _ _ _ _ _ _ _ _ _ _ _ _ _ _ _ _ _ _ _ _ _ _ _ _ _ _ _ _ _ _ _ _ _ _ _ _ _ _ _ _ _ _ _ _ _ _ _ _ _ _ _ _ _ _ _ _ _ _ hR2) H locs ls hP hD hS hl
                                                                                      · skip
                                                                                        refine lv_tableOut (tgt := 1398) hx hb dL_law_32 (Or.inr (by rw [nI_toInt (by omega)]; omega)) (by decide) ?_
                                                                                        exact nx _ _ _ _ _ _ _ _ _ _ _ _ _ _ _ _ _ _ _ _ _ _ _ _ _ _ _ _ _ _ _ _ _ _ _ _ _ _ _ _ _ _ _ _ _ _ _ _ _ _ _ _ _ _ _ _ _ _ _ _ _ _ _ _ _ _ _ _ _ _ _ _ _ _ _ _ _ _ _ _ _ _ _ _ _ _ hR H locs ls hP hD hS hl
