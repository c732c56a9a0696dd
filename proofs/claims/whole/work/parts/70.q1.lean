set_option maxHeartbeats 4000000 in
theorem q_fault {L_draws : Int32} {L_foot : Int32} {L_point : Int32} {L_stiff : Int32} {L_bears : Int32} {L_year : Int32} {L_traits : Nat → Int32} {A0_draws : Int32} {A0_foot : Int32} {A0_point : Int32} {A0_stiff : Int32} {A0_bears : Int32} {A0_year : Int32} {A0_traits : Nat → Int32} {A1_draws : Int32} {A1_foot : Int32} {A1_point : Int32} {A1_stiff : Int32} {A1_bears : Int32} {A1_year : Int32} {A1_traits : Nat → Int32} {x_kept : Nat → Int32} {P_length : Int32} {P_bytes : Nat → Int32} {N_size : Int32} {N_years : Nat → Int32} {N_cells : Nat → Int32} {S0_lane : Int32} {S0_size : Int32} {S0_cells : Nat → Int32} {S1_lane : Int32} {S1_size : Int32} {S1_cells : Nat → Int32} {S2_lane : Int32} {S2_size : Int32} {S2_cells : Nat → Int32} {S3_lane : Int32} {S3_size : Int32} {S3_cells : Nat → Int32} {x_textFault : Int32} {x_readFault : Int32} {m_state : Nat → Int32} {m_tape : Nat → Int32} {m_taped : Int32} {m_fault : Int32} {m_cuts : Nat → Int32} {m_letters : Nat → Int32} {m_silent : Int32} {m_seen : Nat → Int32} {m_seenMany : Int32} {m_isKept : Nat → Int32} {m_lanes : Nat → Int32} {m_lengths : Nat → Int32} {m_sheetCells : Nat → Int32} {m_torn : Int32} (hR : zRel L_draws L_foot L_point L_stiff L_bears L_year L_traits A0_draws A0_foot A0_point A0_stiff A0_bears A0_year A0_traits A1_draws A1_foot A1_point A1_stiff A1_bears A1_year A1_traits x_kept P_length P_bytes N_size N_years N_cells S0_lane S0_size S0_cells S1_lane S1_size S1_cells S2_lane S2_size S2_cells S3_lane S3_size S3_cells x_textFault x_readFault m_state m_tape m_taped m_fault m_cuts m_letters m_silent m_seen m_seenMany m_isKept m_lanes m_lengths m_sheetCells m_torn) : ∃ (oX5 : Int32) (oX6 : Int32), p_X5_fault x_textFault = some oX5 ∧ p_X6_fault m_fault = some oX6 ∧ oX5 = oX6 ∧ zRel L_draws L_foot L_point L_stiff L_bears L_year L_traits A0_draws A0_foot A0_point A0_stiff A0_bears A0_year A0_traits A1_draws A1_foot A1_point A1_stiff A1_bears A1_year A1_traits x_kept P_length P_bytes N_size N_years N_cells S0_lane S0_size S0_cells S1_lane S1_size S1_cells S2_lane S2_size S2_cells S3_lane S3_size S3_cells x_textFault x_readFault m_state m_tape m_taped m_fault m_cuts m_letters m_silent m_seen m_seenMany m_isKept m_lanes m_lengths m_sheetCells m_torn := by
  obtain ⟨hL, hA0, hA1, hT, hN, hS0, hS1, hS2, hS3, e1, e2, e3, e4, e5⟩ := hR
  exact ⟨x_textFault, m_fault, rfl, rfl, e1, hL, hA0, hA1, hT, hN, hS0, hS1, hS2, hS3, e1, e2, e3, e4, e5⟩
set_option maxHeartbeats 4000000 in
theorem q_torn {L_draws : Int32} {L_foot : Int32} {L_point : Int32} {L_stiff : Int32} {L_bears : Int32} {L_year : Int32} {L_traits : Nat → Int32} {A0_draws : Int32} {A0_foot : Int32} {A0_point : Int32} {A0_stiff : Int32} {A0_bears : Int32} {A0_year : Int32} {A0_traits : Nat → Int32} {A1_draws : Int32} {A1_foot : Int32} {A1_point : Int32} {A1_stiff : Int32} {A1_bears : Int32} {A1_year : Int32} {A1_traits : Nat → Int32} {x_kept : Nat → Int32} {P_length : Int32} {P_bytes : Nat → Int32} {N_size : Int32} {N_years : Nat → Int32} {N_cells : Nat → Int32} {S0_lane : Int32} {S0_size : Int32} {S0_cells : Nat → Int32} {S1_lane : Int32} {S1_size : Int32} {S1_cells : Nat → Int32} {S2_lane : Int32} {S2_size : Int32} {S2_cells : Nat → Int32} {S3_lane : Int32} {S3_size : Int32} {S3_cells : Nat → Int32} {x_textFault : Int32} {x_readFault : Int32} {m_state : Nat → Int32} {m_tape : Nat → Int32} {m_taped : Int32} {m_fault : Int32} {m_cuts : Nat → Int32} {m_letters : Nat → Int32} {m_silent : Int32} {m_seen : Nat → Int32} {m_seenMany : Int32} {m_isKept : Nat → Int32} {m_lanes : Nat → Int32} {m_lengths : Nat → Int32} {m_sheetCells : Nat → Int32} {m_torn : Int32} (hR : zRel L_draws L_foot L_point L_stiff L_bears L_year L_traits A0_draws A0_foot A0_point A0_stiff A0_bears A0_year A0_traits A1_draws A1_foot A1_point A1_stiff A1_bears A1_year A1_traits x_kept P_length P_bytes N_size N_years N_cells S0_lane S0_size S0_cells S1_lane S1_size S1_cells S2_lane S2_size S2_cells S3_lane S3_size S3_cells x_textFault x_readFault m_state m_tape m_taped m_fault m_cuts m_letters m_silent m_seen m_seenMany m_isKept m_lanes m_lengths m_sheetCells m_torn) : ∃ (oX5 : Int32) (oX6 : Int32), p_X5_torn x_readFault = some oX5 ∧ p_X6_torn m_torn = some oX6 ∧ oX5 = oX6 ∧ zRel L_draws L_foot L_point L_stiff L_bears L_year L_traits A0_draws A0_foot A0_point A0_stiff A0_bears A0_year A0_traits A1_draws A1_foot A1_point A1_stiff A1_bears A1_year A1_traits x_kept P_length P_bytes N_size N_years N_cells S0_lane S0_size S0_cells S1_lane S1_size S1_cells S2_lane S2_size S2_cells S3_lane S3_size S3_cells x_textFault x_readFault m_state m_tape m_taped m_fault m_cuts m_letters m_silent m_seen m_seenMany m_isKept m_lanes m_lengths m_sheetCells m_torn := by
  obtain ⟨hL, hA0, hA1, hT, hN, hS0, hS1, hS2, hS3, e1, e2, e3, e4, e5⟩ := hR
  exact ⟨x_readFault, m_torn, rfl, rfl, e2, hL, hA0, hA1, hT, hN, hS0, hS1, hS2, hS3, e1, e2, e3, e4, e5⟩
set_option maxHeartbeats 4000000 in
theorem q_stiff {L_draws : Int32} {L_foot : Int32} {L_point : Int32} {L_stiff : Int32} {L_bears : Int32} {L_year : Int32} {L_traits : Nat → Int32} {A0_draws : Int32} {A0_foot : Int32} {A0_point : Int32} {A0_stiff : Int32} {A0_bears : Int32} {A0_year : Int32} {A0_traits : Nat → Int32} {A1_draws : Int32} {A1_foot : Int32} {A1_point : Int32} {A1_stiff : Int32} {A1_bears : Int32} {A1_year : Int32} {A1_traits : Nat → Int32} {x_kept : Nat → Int32} {P_length : Int32} {P_bytes : Nat → Int32} {N_size : Int32} {N_years : Nat → Int32} {N_cells : Nat → Int32} {S0_lane : Int32} {S0_size : Int32} {S0_cells : Nat → Int32} {S1_lane : Int32} {S1_size : Int32} {S1_cells : Nat → Int32} {S2_lane : Int32} {S2_size : Int32} {S2_cells : Nat → Int32} {S3_lane : Int32} {S3_size : Int32} {S3_cells : Nat → Int32} {x_textFault : Int32} {x_readFault : Int32} {m_state : Nat → Int32} {m_tape : Nat → Int32} {m_taped : Int32} {m_fault : Int32} {m_cuts : Nat → Int32} {m_letters : Nat → Int32} {m_silent : Int32} {m_seen : Nat → Int32} {m_seenMany : Int32} {m_isKept : Nat → Int32} {m_lanes : Nat → Int32} {m_lengths : Nat → Int32} {m_sheetCells : Nat → Int32} {m_torn : Int32} (a1 : Int32) (hR : zRel L_draws L_foot L_point L_stiff L_bears L_year L_traits A0_draws A0_foot A0_point A0_stiff A0_bears A0_year A0_traits A1_draws A1_foot A1_point A1_stiff A1_bears A1_year A1_traits x_kept P_length P_bytes N_size N_years N_cells S0_lane S0_size S0_cells S1_lane S1_size S1_cells S2_lane S2_size S2_cells S3_lane S3_size S3_cells x_textFault x_readFault m_state m_tape m_taped m_fault m_cuts m_letters m_silent m_seen m_seenMany m_isKept m_lanes m_lengths m_sheetCells m_torn) : ∃ (oX5 : Int32 × Int32) (oX6 : Int32 × (Nat → Int32)), p_X5_stiff a1 L_stiff = some oX5 ∧ p_X6_stiff a1 m_state = some oX6 ∧ oX5.1 = oX6.1 ∧ zRel L_draws L_foot L_point oX5.2 L_bears L_year L_traits A0_draws A0_foot A0_point A0_stiff A0_bears A0_year A0_traits A1_draws A1_foot A1_point A1_stiff A1_bears A1_year A1_traits x_kept P_length P_bytes N_size N_years N_cells S0_lane S0_size S0_cells S1_lane S1_size S1_cells S2_lane S2_size S2_cells S3_lane S3_size S3_cells x_textFault x_readFault oX6.2 m_tape m_taped m_fault m_cuts m_letters m_silent m_seen m_seenMany m_isKept m_lanes m_lengths m_sheetCells m_torn := by
  obtain ⟨hL, hA0, hA1, hT, hN, hS0, hS1, hS2, hS3, e1, e2, e3, e4, e5⟩ := hR
  rcases arg_in a1 (lo := 0) (hi := 20) (by decide) (by decide) with ⟨j, -, hj, rfl, h1, h2⟩ | ⟨h1, h2, -⟩
  · have h1' : p_X5_within (nI j) (0 : Int32) (20 : Int32) = some 1 := h1
    have h2' : p_X6_in (nI j).toInt64 (0 : Int64) (20 : Int64) = some 1 := h2
    have h3 : p_X6_puts 1 (23 : Int32) (nI j) (2 : Int32) m_state = some (m_state 23 + 2, upd m_state 23 (nI j - 2)) := b_puts (a := 23) (by decide)
    obtain ⟨q1, q2⟩ := u_st hL hj
    refine ⟨(L_stiff, nI j), (m_state 23 + 2, upd m_state 23 (nI j - 2)), ?_, ?_, q1.symm, q2, zIm_upd hA0 (by decide), zIm_upd hA1 (by decide), hT, hN, hS0, hS1, hS2, hS3, e1, e2, e3, e4, e5⟩
    · unfold p_X5_stiff; rw [h1', zbs, if_neg (show ¬ (1 : Int32) = 0 by decide)]
    · unfold p_X6_stiff; rw [h2', zbs, h3]; rfl
  · have h1' : p_X5_within a1 (0 : Int32) (20 : Int32) = some 0 := h1
    have h2' : p_X6_in a1.toInt64 (0 : Int64) (20 : Int64) = some 0 := h2
    refine ⟨(-1, L_stiff), (-1, m_state), ?_, ?_, rfl, hL, hA0, hA1, hT, hN, hS0, hS1, hS2, hS3, e1, e2, e3, e4, e5⟩
    · unfold p_X5_stiff; rw [h1', zbs, if_pos rfl]
    · unfold p_X6_stiff; rw [h2', zbs, b_puts0]; rfl
set_option maxHeartbeats 4000000 in
theorem q_bears {L_draws : Int32} {L_foot : Int32} {L_point : Int32} {L_stiff : Int32} {L_bears : Int32} {L_year : Int32} {L_traits : Nat → Int32} {A0_draws : Int32} {A0_foot : Int32} {A0_point : Int32} {A0_stiff : Int32} {A0_bears : Int32} {A0_year : Int32} {A0_traits : Nat → Int32} {A1_draws : Int32} {A1_foot : Int32} {A1_point : Int32} {A1_stiff : Int32} {A1_bears : Int32} {A1_year : Int32} {A1_traits : Nat → Int32} {x_kept : Nat → Int32} {P_length : Int32} {P_bytes : Nat → Int32} {N_size : Int32} {N_years : Nat → Int32} {N_cells : Nat → Int32} {S0_lane : Int32} {S0_size : Int32} {S0_cells : Nat → Int32} {S1_lane : Int32} {S1_size : Int32} {S1_cells : Nat → Int32} {S2_lane : Int32} {S2_size : Int32} {S2_cells : Nat → Int32} {S3_lane : Int32} {S3_size : Int32} {S3_cells : Nat → Int32} {x_textFault : Int32} {x_readFault : Int32} {m_state : Nat → Int32} {m_tape : Nat → Int32} {m_taped : Int32} {m_fault : Int32} {m_cuts : Nat → Int32} {m_letters : Nat → Int32} {m_silent : Int32} {m_seen : Nat → Int32} {m_seenMany : Int32} {m_isKept : Nat → Int32} {m_lanes : Nat → Int32} {m_lengths : Nat → Int32} {m_sheetCells : Nat → Int32} {m_torn : Int32} (a1 : Int32) (hR : zRel L_draws L_foot L_point L_stiff L_bears L_year L_traits A0_draws A0_foot A0_point A0_stiff A0_bears A0_year A0_traits A1_draws A1_foot A1_point A1_stiff A1_bears A1_year A1_traits x_kept P_length P_bytes N_size N_years N_cells S0_lane S0_size S0_cells S1_lane S1_size S1_cells S2_lane S2_size S2_cells S3_lane S3_size S3_cells x_textFault x_readFault m_state m_tape m_taped m_fault m_cuts m_letters m_silent m_seen m_seenMany m_isKept m_lanes m_lengths m_sheetCells m_torn) : ∃ (oX5 : Int32 × Int32) (oX6 : Int32 × (Nat → Int32)), p_X5_bears a1 L_bears = some oX5 ∧ p_X6_bears a1 m_state = some oX6 ∧ oX5.1 = oX6.1 ∧ zRel L_draws L_foot L_point L_stiff oX5.2 L_year L_traits A0_draws A0_foot A0_point A0_stiff A0_bears A0_year A0_traits A1_draws A1_foot A1_point A1_stiff A1_bears A1_year A1_traits x_kept P_length P_bytes N_size N_years N_cells S0_lane S0_size S0_cells S1_lane S1_size S1_cells S2_lane S2_size S2_cells S3_lane S3_size S3_cells x_textFault x_readFault oX6.2 m_tape m_taped m_fault m_cuts m_letters m_silent m_seen m_seenMany m_isKept m_lanes m_lengths m_sheetCells m_torn := by
  obtain ⟨hL, hA0, hA1, hT, hN, hS0, hS1, hS2, hS3, e1, e2, e3, e4, e5⟩ := hR
  rcases arg_in a1 (lo := 0) (hi := 18) (by decide) (by decide) with ⟨j, -, hj, rfl, h1, h2⟩ | ⟨h1, h2, -⟩
  · have h1' : p_X5_within (nI j) (0 : Int32) (18 : Int32) = some 1 := h1
    have h2' : p_X6_in (nI j).toInt64 (0 : Int64) (18 : Int64) = some 1 := h2
    have h3 : p_X6_puts 1 (24 : Int32) (nI j) (9 : Int32) m_state = some (m_state 24 + 9, upd m_state 24 (nI j - 9)) := b_puts (a := 24) (by decide)
    obtain ⟨q1, q2⟩ := u_be hL hj
    refine ⟨(L_bears, nI j), (m_state 24 + 9, upd m_state 24 (nI j - 9)), ?_, ?_, q1.symm, q2, zIm_upd hA0 (by decide), zIm_upd hA1 (by decide), hT, hN, hS0, hS1, hS2, hS3, e1, e2, e3, e4, e5⟩
    · unfold p_X5_bears; rw [h1', zbs, if_neg (show ¬ (1 : Int32) = 0 by decide)]
    · unfold p_X6_bears; rw [h2', zbs, h3]; rfl
  · have h1' : p_X5_within a1 (0 : Int32) (18 : Int32) = some 0 := h1
    have h2' : p_X6_in a1.toInt64 (0 : Int64) (18 : Int64) = some 0 := h2
    refine ⟨(-1, L_bears), (-1, m_state), ?_, ?_, rfl, hL, hA0, hA1, hT, hN, hS0, hS1, hS2, hS3, e1, e2, e3, e4, e5⟩
    · unfold p_X5_bears; rw [h1', zbs, if_pos rfl]
    · unfold p_X6_bears; rw [h2', zbs, b_puts0]; rfl
set_option maxHeartbeats 4000000 in
theorem q_bend {L_draws : Int32} {L_foot : Int32} {L_point : Int32} {L_stiff : Int32} {L_bears : Int32} {L_year : Int32} {L_traits : Nat → Int32} {A0_draws : Int32} {A0_foot : Int32} {A0_point : Int32} {A0_stiff : Int32} {A0_bears : Int32} {A0_year : Int32} {A0_traits : Nat → Int32} {A1_draws : Int32} {A1_foot : Int32} {A1_point : Int32} {A1_stiff : Int32} {A1_bears : Int32} {A1_year : Int32} {A1_traits : Nat → Int32} {x_kept : Nat → Int32} {P_length : Int32} {P_bytes : Nat → Int32} {N_size : Int32} {N_years : Nat → Int32} {N_cells : Nat → Int32} {S0_lane : Int32} {S0_size : Int32} {S0_cells : Nat → Int32} {S1_lane : Int32} {S1_size : Int32} {S1_cells : Nat → Int32} {S2_lane : Int32} {S2_size : Int32} {S2_cells : Nat → Int32} {S3_lane : Int32} {S3_size : Int32} {S3_cells : Nat → Int32} {x_textFault : Int32} {x_readFault : Int32} {m_state : Nat → Int32} {m_tape : Nat → Int32} {m_taped : Int32} {m_fault : Int32} {m_cuts : Nat → Int32} {m_letters : Nat → Int32} {m_silent : Int32} {m_seen : Nat → Int32} {m_seenMany : Int32} {m_isKept : Nat → Int32} {m_lanes : Nat → Int32} {m_lengths : Nat → Int32} {m_sheetCells : Nat → Int32} {m_torn : Int32} (a1 : Int32) (hR : zRel L_draws L_foot L_point L_stiff L_bears L_year L_traits A0_draws A0_foot A0_point A0_stiff A0_bears A0_year A0_traits A1_draws A1_foot A1_point A1_stiff A1_bears A1_year A1_traits x_kept P_length P_bytes N_size N_years N_cells S0_lane S0_size S0_cells S1_lane S1_size S1_cells S2_lane S2_size S2_cells S3_lane S3_size S3_cells x_textFault x_readFault m_state m_tape m_taped m_fault m_cuts m_letters m_silent m_seen m_seenMany m_isKept m_lanes m_lengths m_sheetCells m_torn) : ∃ (oX5 : Int32 × Int32) (oX6 : Int32 × (Nat → Int32)), p_X5_bend a1 L_point = some oX5 ∧ p_X6_bend a1 m_state = some oX6 ∧ oX5.1 = oX6.1 ∧ zRel L_draws L_foot oX5.2 L_stiff L_bears L_year L_traits A0_draws A0_foot A0_point A0_stiff A0_bears A0_year A0_traits A1_draws A1_foot A1_point A1_stiff A1_bears A1_year A1_traits x_kept P_length P_bytes N_size N_years N_cells S0_lane S0_size S0_cells S1_lane S1_size S1_cells S2_lane S2_size S2_cells S3_lane S3_size S3_cells x_textFault x_readFault oX6.2 m_tape m_taped m_fault m_cuts m_letters m_silent m_seen m_seenMany m_isKept m_lanes m_lengths m_sheetCells m_torn := by
  obtain ⟨hL, hA0, hA1, hT, hN, hS0, hS1, hS2, hS3, e1, e2, e3, e4, e5⟩ := hR
  rcases arg_cell a1 with ⟨j, hj, rfl, h1, h2⟩ | ⟨h1, h2, -⟩
  · have h3 : p_X6_puts 1 (22 : Int32) (nI j) (44 : Int32) m_state = some (m_state 22 + 44, upd m_state 22 (nI j - 44)) := b_puts (a := 22) (by decide)
    obtain ⟨q1, q2⟩ := u_po hL hj
    refine ⟨(L_point, nI j), (m_state 22 + 44, upd m_state 22 (nI j - 44)), ?_, ?_, q1.symm, q2, zIm_upd hA0 (by decide), zIm_upd hA1 (by decide), hT, hN, hS0, hS1, hS2, hS3, e1, e2, e3, e4, e5⟩
    · unfold p_X5_bend; rw [h1, zbs, if_neg (show ¬ (1 : Int32) = 0 by decide)]
    · unfold p_X6_bend; rw [h2, zbs, h3]; rfl
  · refine ⟨(-1, L_point), (-1, m_state), ?_, ?_, rfl, hL, hA0, hA1, hT, hN, hS0, hS1, hS2, hS3, e1, e2, e3, e4, e5⟩
    · unfold p_X5_bend; rw [h1, zbs, if_pos rfl]
    · unfold p_X6_bend; rw [h2, zbs, b_puts0]; rfl
set_option maxHeartbeats 4000000 in
theorem q_raze {L_draws : Int32} {L_foot : Int32} {L_point : Int32} {L_stiff : Int32} {L_bears : Int32} {L_year : Int32} {L_traits : Nat → Int32} {A0_draws : Int32} {A0_foot : Int32} {A0_point : Int32} {A0_stiff : Int32} {A0_bears : Int32} {A0_year : Int32} {A0_traits : Nat → Int32} {A1_draws : Int32} {A1_foot : Int32} {A1_point : Int32} {A1_stiff : Int32} {A1_bears : Int32} {A1_year : Int32} {A1_traits : Nat → Int32} {x_kept : Nat → Int32} {P_length : Int32} {P_bytes : Nat → Int32} {N_size : Int32} {N_years : Nat → Int32} {N_cells : Nat → Int32} {S0_lane : Int32} {S0_size : Int32} {S0_cells : Nat → Int32} {S1_lane : Int32} {S1_size : Int32} {S1_cells : Nat → Int32} {S2_lane : Int32} {S2_size : Int32} {S2_cells : Nat → Int32} {S3_lane : Int32} {S3_size : Int32} {S3_cells : Nat → Int32} {x_textFault : Int32} {x_readFault : Int32} {m_state : Nat → Int32} {m_tape : Nat → Int32} {m_taped : Int32} {m_fault : Int32} {m_cuts : Nat → Int32} {m_letters : Nat → Int32} {m_silent : Int32} {m_seen : Nat → Int32} {m_seenMany : Int32} {m_isKept : Nat → Int32} {m_lanes : Nat → Int32} {m_lengths : Nat → Int32} {m_sheetCells : Nat → Int32} {m_torn : Int32} (a1 : Int32) (hR : zRel L_draws L_foot L_point L_stiff L_bears L_year L_traits A0_draws A0_foot A0_point A0_stiff A0_bears A0_year A0_traits A1_draws A1_foot A1_point A1_stiff A1_bears A1_year A1_traits x_kept P_length P_bytes N_size N_years N_cells S0_lane S0_size S0_cells S1_lane S1_size S1_cells S2_lane S2_size S2_cells S3_lane S3_size S3_cells x_textFault x_readFault m_state m_tape m_taped m_fault m_cuts m_letters m_silent m_seen m_seenMany m_isKept m_lanes m_lengths m_sheetCells m_torn) : ∃ (oX5 : Int32 × Int32) (oX6 : Int32 × (Nat → Int32)), p_X5_raze a1 L_draws = some oX5 ∧ p_X6_raze a1 m_state = some oX6 ∧ oX5.1 = oX6.1 ∧ zRel oX5.2 L_foot L_point L_stiff L_bears L_year L_traits A0_draws A0_foot A0_point A0_stiff A0_bears A0_year A0_traits A1_draws A1_foot A1_point A1_stiff A1_bears A1_year A1_traits x_kept P_length P_bytes N_size N_years N_cells S0_lane S0_size S0_cells S1_lane S1_size S1_cells S2_lane S2_size S2_cells S3_lane S3_size S3_cells x_textFault x_readFault oX6.2 m_tape m_taped m_fault m_cuts m_letters m_silent m_seen m_seenMany m_isKept m_lanes m_lengths m_sheetCells m_torn := by
  obtain ⟨hL, hA0, hA1, hT, hN, hS0, hS1, hS2, hS3, e1, e2, e3, e4, e5⟩ := hR
  obtain ⟨d, hd, ed, fd, up⟩ := u_dr hL
  have g20 : z_get m_state 156 (20 : Int32) = some (nI d) := by rw [← fd]; exact z_get_n (i := 20) (by decide) (by decide)
  have ld : (nI d).toInt64 = lN d := nI_l (by omega)
  rcases arg_in a1 (lo := 0) (hi := d) (by omega) (by omega) with ⟨j, -, hj, rfl, h1, h2⟩ | ⟨h1, h2, -⟩
  · have h1' : p_X5_within (nI j) (0 : Int32) L_draws = some 1 := by rw [ed]; exact h1
    have h2' : p_X6_in (nI j).toInt64 (0 : Int64) (nI d).toInt64 = some 1 := by rw [ld]; exact h2
    have h3 : p_X6_puts 1 (20 : Int32) (nI j) (0 : Int32) m_state = some (m_state 20 + 0, upd m_state 20 (nI j - 0)) := b_puts (a := 20) (by decide)
    have z0 : nI j - 0 = nI j := Int32.sub_zero _
    have z1 : m_state 20 + 0 = L_draws := by rw [ed, fd]; exact Int32.add_zero _
    rw [z0, z1] at h3
    refine ⟨(L_draws, nI j), (L_draws, upd m_state 20 (nI j)), ?_, ?_, rfl, up j hj, zIm_upd hA0 (by decide), zIm_upd hA1 (by decide), hT, hN, hS0, hS1, hS2, hS3, e1, e2, e3, e4, e5⟩
    · unfold p_X5_raze; rw [h1', zbs, if_neg (show ¬ (1 : Int32) = 0 by decide)]
    · unfold p_X6_raze; rw [g20, zbs, h2', zbs, h3]; rfl
  · have h1' : p_X5_within a1 (0 : Int32) L_draws = some 0 := by rw [ed]; exact h1
    have h2' : p_X6_in a1.toInt64 (0 : Int64) (nI d).toInt64 = some 0 := by rw [ld]; exact h2
    refine ⟨(-1, L_draws), (-1, m_state), ?_, ?_, rfl, hL, hA0, hA1, hT, hN, hS0, hS1, hS2, hS3, e1, e2, e3, e4, e5⟩
    · unfold p_X5_raze; rw [h1', zbs, if_pos rfl]
    · unfold p_X6_raze; rw [g20, zbs, h2', zbs, b_puts0]; rfl
set_option maxHeartbeats 4000000 in
theorem q_feed {L_draws : Int32} {L_foot : Int32} {L_point : Int32} {L_stiff : Int32} {L_bears : Int32} {L_year : Int32} {L_traits : Nat → Int32} {A0_draws : Int32} {A0_foot : Int32} {A0_point : Int32} {A0_stiff : Int32} {A0_bears : Int32} {A0_year : Int32} {A0_traits : Nat → Int32} {A1_draws : Int32} {A1_foot : Int32} {A1_point : Int32} {A1_stiff : Int32} {A1_bears : Int32} {A1_year : Int32} {A1_traits : Nat → Int32} {x_kept : Nat → Int32} {P_length : Int32} {P_bytes : Nat → Int32} {N_size : Int32} {N_years : Nat → Int32} {N_cells : Nat → Int32} {S0_lane : Int32} {S0_size : Int32} {S0_cells : Nat → Int32} {S1_lane : Int32} {S1_size : Int32} {S1_cells : Nat → Int32} {S2_lane : Int32} {S2_size : Int32} {S2_cells : Nat → Int32} {S3_lane : Int32} {S3_size : Int32} {S3_cells : Nat → Int32} {x_textFault : Int32} {x_readFault : Int32} {m_state : Nat → Int32} {m_tape : Nat → Int32} {m_taped : Int32} {m_fault : Int32} {m_cuts : Nat → Int32} {m_letters : Nat → Int32} {m_silent : Int32} {m_seen : Nat → Int32} {m_seenMany : Int32} {m_isKept : Nat → Int32} {m_lanes : Nat → Int32} {m_lengths : Nat → Int32} {m_sheetCells : Nat → Int32} {m_torn : Int32} (a1 : Int32) (hR : zRel L_draws L_foot L_point L_stiff L_bears L_year L_traits A0_draws A0_foot A0_point A0_stiff A0_bears A0_year A0_traits A1_draws A1_foot A1_point A1_stiff A1_bears A1_year A1_traits x_kept P_length P_bytes N_size N_years N_cells S0_lane S0_size S0_cells S1_lane S1_size S1_cells S2_lane S2_size S2_cells S3_lane S3_size S3_cells x_textFault x_readFault m_state m_tape m_taped m_fault m_cuts m_letters m_silent m_seen m_seenMany m_isKept m_lanes m_lengths m_sheetCells m_torn) : ∃ (oX5 : Int32 × Int32 × (Nat → Int32)) (oX6 : Int32 × Int32 × (Nat → Int32)), p_X5_feed a1 P_length P_bytes = some oX5 ∧ p_X6_feed a1 m_taped m_tape = some oX6 ∧ oX5.1 = oX6.1 ∧ zRel L_draws L_foot L_point L_stiff L_bears L_year L_traits A0_draws A0_foot A0_point A0_stiff A0_bears A0_year A0_traits A1_draws A1_foot A1_point A1_stiff A1_bears A1_year A1_traits x_kept oX5.2.1 oX5.2.2 N_size N_years N_cells S0_lane S0_size S0_cells S1_lane S1_size S1_cells S2_lane S2_size S2_cells S3_lane S3_size S3_cells x_textFault x_readFault m_state oX6.2.2 oX6.2.1 m_fault m_cuts m_letters m_silent m_seen m_seenMany m_isKept m_lanes m_lengths m_sheetCells m_torn := by
  obtain ⟨hL, hA0, hA1, hT, hN, hS0, hS1, hS2, hS3, e1, e2, e3, e4, e5⟩ := hR
  obtain ⟨n, hn, rfl, rfl, ht⟩ := hT
  have hT : zTape (nI n) P_bytes (nI n) m_tape := ⟨n, hn, rfl, rfl, ht⟩
  rcases arg_in a1 (lo := 0) (hi := 127) (by decide) (by decide) with ⟨j, -, hj, rfl, h1, h2⟩ | ⟨h1, h2, -⟩
  · have h1' : p_X5_within (nI j) (0 : Int32) (127 : Int32) = some 1 := h1
    have h2' : p_X6_in (nI j).toInt64 (0 : Int64) (127 : Int64) = some 1 := h2
    by_cases c : n < 160
    · have c1 : nI n < (160 : Int32) := nI_lt (b := 160) c (by decide)
      have c2 : ¬ nI n = (160 : Int32) := nI_ne' (b := 160) (by omega) (by omega) (by decide)
      refine ⟨(nI n + 1, nI n + 1, upd P_bytes n (nI j)), (nI n + 1, nI n + 1, upd m_tape n (nI j)), ?_, ?_, rfl, hL, hA0, hA1, tape_add (ln := 0) (tn := 0) c (by omega) ht, hN, hS0, hS1, hS2, hS3, e1, e2, e3, e4, e5⟩
      · unfold p_X5_feed p_X3_append
        rw [h1', zbs, if_neg (show ¬ (1 : Int32) = 0 by decide), if_pos c1, byteval j (by omega), z_set_n c (by decide)]
        rfl
      · unfold p_X6_feed
        rw [h2', zbs, if_neg (show ¬ (1 : Int32) = 0 by decide), if_neg c2, z_set_n c (by decide)]
        rfl
    · have hn' : n = 160 := by omega
      have c1 : ¬ nI n < (160 : Int32) := by rw [hn']; decide
      have c2 : nI n = (160 : Int32) := by rw [hn']; rfl
      refine ⟨(-3, nI n, P_bytes), (-3, nI n, m_tape), ?_, ?_, rfl, hL, hA0, hA1, hT, hN, hS0, hS1, hS2, hS3, e1, e2, e3, e4, e5⟩
      · unfold p_X5_feed p_X3_append
        rw [h1', zbs, if_neg (show ¬ (1 : Int32) = 0 by decide), if_neg c1]
        rfl
      · unfold p_X6_feed
        rw [h2', zbs, if_neg (show ¬ (1 : Int32) = 0 by decide), if_pos c2]
  · have h1' : p_X5_within a1 (0 : Int32) (127 : Int32) = some 0 := h1
    have h2' : p_X6_in a1.toInt64 (0 : Int64) (127 : Int64) = some 0 := h2
    refine ⟨(-1, nI n, P_bytes), (-1, nI n, m_tape), ?_, ?_, rfl, hL, hA0, hA1, hT, hN, hS0, hS1, hS2, hS3, e1, e2, e3, e4, e5⟩
    · unfold p_X5_feed; rw [h1', zbs, if_pos rfl]
    · unfold p_X6_feed; rw [h2', zbs, if_pos rfl]
set_option maxHeartbeats 4000000 in
theorem q_end {L_draws : Int32} {L_foot : Int32} {L_point : Int32} {L_stiff : Int32} {L_bears : Int32} {L_year : Int32} {L_traits : Nat → Int32} {A0_draws : Int32} {A0_foot : Int32} {A0_point : Int32} {A0_stiff : Int32} {A0_bears : Int32} {A0_year : Int32} {A0_traits : Nat → Int32} {A1_draws : Int32} {A1_foot : Int32} {A1_point : Int32} {A1_stiff : Int32} {A1_bears : Int32} {A1_year : Int32} {A1_traits : Nat → Int32} {x_kept : Nat → Int32} {P_length : Int32} {P_bytes : Nat → Int32} {N_size : Int32} {N_years : Nat → Int32} {N_cells : Nat → Int32} {S0_lane : Int32} {S0_size : Int32} {S0_cells : Nat → Int32} {S1_lane : Int32} {S1_size : Int32} {S1_cells : Nat → Int32} {S2_lane : Int32} {S2_size : Int32} {S2_cells : Nat → Int32} {S3_lane : Int32} {S3_size : Int32} {S3_cells : Nat → Int32} {x_textFault : Int32} {x_readFault : Int32} {m_state : Nat → Int32} {m_tape : Nat → Int32} {m_taped : Int32} {m_fault : Int32} {m_cuts : Nat → Int32} {m_letters : Nat → Int32} {m_silent : Int32} {m_seen : Nat → Int32} {m_seenMany : Int32} {m_isKept : Nat → Int32} {m_lanes : Nat → Int32} {m_lengths : Nat → Int32} {m_sheetCells : Nat → Int32} {m_torn : Int32} (a1 : Int32) (hR : zRel L_draws L_foot L_point L_stiff L_bears L_year L_traits A0_draws A0_foot A0_point A0_stiff A0_bears A0_year A0_traits A1_draws A1_foot A1_point A1_stiff A1_bears A1_year A1_traits x_kept P_length P_bytes N_size N_years N_cells S0_lane S0_size S0_cells S1_lane S1_size S1_cells S2_lane S2_size S2_cells S3_lane S3_size S3_cells x_textFault x_readFault m_state m_tape m_taped m_fault m_cuts m_letters m_silent m_seen m_seenMany m_isKept m_lanes m_lengths m_sheetCells m_torn) : ∃ (oX5 : Int32 × Int32) (oX6 : Int32 × Int32), p_X5_end a1 P_length = some oX5 ∧ p_X6_end a1 m_taped = some oX6 ∧ oX5.1 = oX6.1 ∧ zRel L_draws L_foot L_point L_stiff L_bears L_year L_traits A0_draws A0_foot A0_point A0_stiff A0_bears A0_year A0_traits A1_draws A1_foot A1_point A1_stiff A1_bears A1_year A1_traits x_kept oX5.2 P_bytes N_size N_years N_cells S0_lane S0_size S0_cells S1_lane S1_size S1_cells S2_lane S2_size S2_cells S3_lane S3_size S3_cells x_textFault x_readFault m_state m_tape oX6.2 m_fault m_cuts m_letters m_silent m_seen m_seenMany m_isKept m_lanes m_lengths m_sheetCells m_torn := by
  obtain ⟨hL, hA0, hA1, hT, hN, hS0, hS1, hS2, hS3, e1, e2, e3, e4, e5⟩ := hR
  obtain ⟨n, hn, rfl, rfl, ht⟩ := hT
  have hT : zTape (nI n) P_bytes (nI n) m_tape := ⟨n, hn, rfl, rfl, ht⟩
  have ld : (nI n).toInt64 = lN n := nI_l (by omega)
  rcases arg_in a1 (lo := 0) (hi := n) (by omega) (by omega) with ⟨j, -, hj, rfl, h1, h2⟩ | ⟨h1, h2, -⟩
  · have h1' : p_X5_within (nI j) (0 : Int32) (nI n) = some 1 := h1
    have h2' : p_X6_in (nI j).toInt64 (0 : Int64) (nI n).toInt64 = some 1 := by rw [ld]; exact h2
    refine ⟨(nI n, nI j), (nI n, nI j), ?_, ?_, rfl, hL, hA0, hA1, tape_cut hn hj ht, hN, hS0, hS1, hS2, hS3, e1, e2, e3, e4, e5⟩
    · unfold p_X5_end; rw [h1', zbs, if_neg (show ¬ (1 : Int32) = 0 by decide)]
    · unfold p_X6_end; rw [h2', zbs, if_neg (show ¬ (1 : Int32) = 0 by decide)]
  · have h1' : p_X5_within a1 (0 : Int32) (nI n) = some 0 := h1
    have h2' : p_X6_in a1.toInt64 (0 : Int64) (nI n).toInt64 = some 0 := by rw [ld]; exact h2
    refine ⟨(-1, nI n), (-1, nI n), ?_, ?_, rfl, hL, hA0, hA1, hT, hN, hS0, hS1, hS2, hS3, e1, e2, e3, e4, e5⟩
    · unfold p_X5_end; rw [h1', zbs, if_pos rfl]
    · unfold p_X6_end; rw [h2', zbs, if_pos rfl]
set_option maxHeartbeats 4000000 in
theorem q_forget {L_draws : Int32} {L_foot : Int32} {L_point : Int32} {L_stiff : Int32} {L_bears : Int32} {L_year : Int32} {L_traits : Nat → Int32} {A0_draws : Int32} {A0_foot : Int32} {A0_point : Int32} {A0_stiff : Int32} {A0_bears : Int32} {A0_year : Int32} {A0_traits : Nat → Int32} {A1_draws : Int32} {A1_foot : Int32} {A1_point : Int32} {A1_stiff : Int32} {A1_bears : Int32} {A1_year : Int32} {A1_traits : Nat → Int32} {x_kept : Nat → Int32} {P_length : Int32} {P_bytes : Nat → Int32} {N_size : Int32} {N_years : Nat → Int32} {N_cells : Nat → Int32} {S0_lane : Int32} {S0_size : Int32} {S0_cells : Nat → Int32} {S1_lane : Int32} {S1_size : Int32} {S1_cells : Nat → Int32} {S2_lane : Int32} {S2_size : Int32} {S2_cells : Nat → Int32} {S3_lane : Int32} {S3_size : Int32} {S3_cells : Nat → Int32} {x_textFault : Int32} {x_readFault : Int32} {m_state : Nat → Int32} {m_tape : Nat → Int32} {m_taped : Int32} {m_fault : Int32} {m_cuts : Nat → Int32} {m_letters : Nat → Int32} {m_silent : Int32} {m_seen : Nat → Int32} {m_seenMany : Int32} {m_isKept : Nat → Int32} {m_lanes : Nat → Int32} {m_lengths : Nat → Int32} {m_sheetCells : Nat → Int32} {m_torn : Int32} (a1 : Int32) (hR : zRel L_draws L_foot L_point L_stiff L_bears L_year L_traits A0_draws A0_foot A0_point A0_stiff A0_bears A0_year A0_traits A1_draws A1_foot A1_point A1_stiff A1_bears A1_year A1_traits x_kept P_length P_bytes N_size N_years N_cells S0_lane S0_size S0_cells S1_lane S1_size S1_cells S2_lane S2_size S2_cells S3_lane S3_size S3_cells x_textFault x_readFault m_state m_tape m_taped m_fault m_cuts m_letters m_silent m_seen m_seenMany m_isKept m_lanes m_lengths m_sheetCells m_torn) : ∃ (oX5 : Int32 × Int32) (oX6 : Int32 × Int32), p_X5_forget a1 N_size = some oX5 ∧ p_X6_forget a1 m_seenMany = some oX6 ∧ oX5.1 = oX6.1 ∧ zRel L_draws L_foot L_point L_stiff L_bears L_year L_traits A0_draws A0_foot A0_point A0_stiff A0_bears A0_year A0_traits A1_draws A1_foot A1_point A1_stiff A1_bears A1_year A1_traits x_kept P_length P_bytes oX5.2 N_years N_cells S0_lane S0_size S0_cells S1_lane S1_size S1_cells S2_lane S2_size S2_cells S3_lane S3_size S3_cells x_textFault x_readFault m_state m_tape m_taped m_fault m_cuts m_letters m_silent m_seen oX6.2 m_isKept m_lanes m_lengths m_sheetCells m_torn := by
  obtain ⟨hL, hA0, hA1, hT, hN, hS0, hS1, hS2, hS3, e1, e2, e3, e4, e5⟩ := hR
  obtain ⟨n, hn, rfl, rfl, ht⟩ := hN
  have hN : zSeen (nI n) N_years N_cells (nI n) m_seen := ⟨n, hn, rfl, rfl, ht⟩
  have ld : (nI n).toInt64 = lN n := nI_l (by omega)
  rcases arg_in a1 (lo := 0) (hi := n) (by omega) (by omega) with ⟨j, -, hj, rfl, h1, h2⟩ | ⟨h1, h2, -⟩
  · have h1' : p_X5_within (nI j) (0 : Int32) (nI n) = some 1 := h1
    have h2' : p_X6_in (nI j).toInt64 (0 : Int64) (nI n).toInt64 = some 1 := by rw [ld]; exact h2
    refine ⟨(nI n, nI j), (nI n, nI j), ?_, ?_, rfl, hL, hA0, hA1, hT, seen_cut hn hj ht, hS0, hS1, hS2, hS3, e1, e2, e3, e4, e5⟩
    · unfold p_X5_forget; rw [h1', zbs, if_neg (show ¬ (1 : Int32) = 0 by decide)]
    · unfold p_X6_forget; rw [h2', zbs, if_neg (show ¬ (1 : Int32) = 0 by decide)]
  · have h1' : p_X5_within a1 (0 : Int32) (nI n) = some 0 := h1
    have h2' : p_X6_in a1.toInt64 (0 : Int64) (nI n).toInt64 = some 0 := by rw [ld]; exact h2
    refine ⟨(-1, nI n), (-1, nI n), ?_, ?_, rfl, hL, hA0, hA1, hT, hN, hS0, hS1, hS2, hS3, e1, e2, e3, e4, e5⟩
    · unfold p_X5_forget; rw [h1', zbs, if_pos rfl]
    · unfold p_X6_forget; rw [h2', zbs, if_pos rfl]
set_option maxHeartbeats 4000000 in
theorem q_see {L_draws : Int32} {L_foot : Int32} {L_point : Int32} {L_stiff : Int32} {L_bears : Int32} {L_year : Int32} {L_traits : Nat → Int32} {A0_draws : Int32} {A0_foot : Int32} {A0_point : Int32} {A0_stiff : Int32} {A0_bears : Int32} {A0_year : Int32} {A0_traits : Nat → Int32} {A1_draws : Int32} {A1_foot : Int32} {A1_point : Int32} {A1_stiff : Int32} {A1_bears : Int32} {A1_year : Int32} {A1_traits : Nat → Int32} {x_kept : Nat → Int32} {P_length : Int32} {P_bytes : Nat → Int32} {N_size : Int32} {N_years : Nat → Int32} {N_cells : Nat → Int32} {S0_lane : Int32} {S0_size : Int32} {S0_cells : Nat → Int32} {S1_lane : Int32} {S1_size : Int32} {S1_cells : Nat → Int32} {S2_lane : Int32} {S2_size : Int32} {S2_cells : Nat → Int32} {S3_lane : Int32} {S3_size : Int32} {S3_cells : Nat → Int32} {x_textFault : Int32} {x_readFault : Int32} {m_state : Nat → Int32} {m_tape : Nat → Int32} {m_taped : Int32} {m_fault : Int32} {m_cuts : Nat → Int32} {m_letters : Nat → Int32} {m_silent : Int32} {m_seen : Nat → Int32} {m_seenMany : Int32} {m_isKept : Nat → Int32} {m_lanes : Nat → Int32} {m_lengths : Nat → Int32} {m_sheetCells : Nat → Int32} {m_torn : Int32} (a1 : Int32) (a2 : Int32) (hR : zRel L_draws L_foot L_point L_stiff L_bears L_year L_traits A0_draws A0_foot A0_point A0_stiff A0_bears A0_year A0_traits A1_draws A1_foot A1_point A1_stiff A1_bears A1_year A1_traits x_kept P_length P_bytes N_size N_years N_cells S0_lane S0_size S0_cells S1_lane S1_size S1_cells S2_lane S2_size S2_cells S3_lane S3_size S3_cells x_textFault x_readFault m_state m_tape m_taped m_fault m_cuts m_letters m_silent m_seen m_seenMany m_isKept m_lanes m_lengths m_sheetCells m_torn) : ∃ (oX5 : Int32 × Int32 × (Nat → Int32) × (Nat → Int32)) (oX6 : Int32 × Int32 × (Nat → Int32)), p_X5_see a1 a2 N_size N_years N_cells = some oX5 ∧ p_X6_see a1 a2 m_seenMany m_seen = some oX6 ∧ oX5.1 = oX6.1 ∧ zRel L_draws L_foot L_point L_stiff L_bears L_year L_traits A0_draws A0_foot A0_point A0_stiff A0_bears A0_year A0_traits A1_draws A1_foot A1_point A1_stiff A1_bears A1_year A1_traits x_kept P_length P_bytes oX5.2.1 oX5.2.2.1 oX5.2.2.2 S0_lane S0_size S0_cells S1_lane S1_size S1_cells S2_lane S2_size S2_cells S3_lane S3_size S3_cells x_textFault x_readFault m_state m_tape m_taped m_fault m_cuts m_letters m_silent oX6.2.2 oX6.2.1 m_isKept m_lanes m_lengths m_sheetCells m_torn := by
  obtain ⟨hL, hA0, hA1, hT, hN, hS0, hS1, hS2, hS3, e1, e2, e3, e4, e5⟩ := hR
  obtain ⟨n, hn, rfl, rfl, ht⟩ := hN
  have hN : zSeen (nI n) N_years N_cells (nI n) m_seen := ⟨n, hn, rfl, rfl, ht⟩
  rcases arg_in a1 (lo := 0) (hi := 30) (by decide) (by decide) with ⟨j, -, hj, rfl, h1, h2⟩ | ⟨h1, h2, -⟩
  · have h1' : p_X5_within (nI j) (0 : Int32) (30 : Int32) = some 1 := h1
    have h2' : p_X6_in (nI j).toInt64 (0 : Int64) (30 : Int64) = some 1 := h2
    rcases arg_cell a2 with ⟨c, hc, rfl, h3, h4⟩ | ⟨h3, h4, -⟩
    · by_cases q : n < 6
      · have c1 : nI n < (6 : Int32) := nI_lt (b := 6) q (by decide)
        have c2 : ¬ nI n = (6 : Int32) := nI_ne' (b := 6) (by omega) (by omega) (by decide)
        refine ⟨(nI n + 1, nI n + 1, upd N_years n (nI j), upd N_cells n (nI c)), (nI n + 1, nI n + 1, upd (upd m_seen (2 * n) (nI j)) (2 * n + 1) (nI c)), ?_, ?_, rfl, hL, hA0, hA1, hT, seen_add q hj hc ht, hS0, hS1, hS2, hS3, e1, e2, e3, e4, e5⟩
        · unfold p_X5_see p_X2_add
          rw [h1', zbs, if_neg (show ¬ (1 : Int32) = 0 by decide), h3, zbs, if_neg (show ¬ (1 : Int32) = 0 by decide), if_pos c1, z_set_n q (by decide), zbs, z_set_n q (by decide)]
          rfl
        · unfold p_X6_see
          rw [h2', zbs, if_neg (show ¬ (1 : Int32) = 0 by decide), h4, zbs, if_neg (show ¬ (1 : Int32) = 0 by decide), if_neg c2, z_set_e (2 * n) (by rw [zi2, pk_mul]) (by omega) (by decide), zbs, z_set_e (2 * n + 1) (by rw [zi2, zi1, pk_mul, nI_add]) (by omega) (by decide)]
          rfl
      · have hn' : n = 6 := by omega
        have c1 : ¬ nI n < (6 : Int32) := by rw [hn']; decide
        have c2 : nI n = (6 : Int32) := by rw [hn']; rfl
        refine ⟨(-3, nI n, N_years, N_cells), (-3, nI n, m_seen), ?_, ?_, rfl, hL, hA0, hA1, hT, hN, hS0, hS1, hS2, hS3, e1, e2, e3, e4, e5⟩
        · unfold p_X5_see p_X2_add
          rw [h1', zbs, if_neg (show ¬ (1 : Int32) = 0 by decide), h3, zbs, if_neg (show ¬ (1 : Int32) = 0 by decide), if_neg c1]
          rfl
        · unfold p_X6_see
          rw [h2', zbs, if_neg (show ¬ (1 : Int32) = 0 by decide), h4, zbs, if_neg (show ¬ (1 : Int32) = 0 by decide), if_pos c2]
    · refine ⟨(-1, nI n, N_years, N_cells), (-1, nI n, m_seen), ?_, ?_, rfl, hL, hA0, hA1, hT, hN, hS0, hS1, hS2, hS3, e1, e2, e3, e4, e5⟩
      · unfold p_X5_see; rw [h1', zbs, if_neg (show ¬ (1 : Int32) = 0 by decide), h3, zbs, if_pos rfl]
      · unfold p_X6_see; rw [h2', zbs, if_neg (show ¬ (1 : Int32) = 0 by decide), h4, zbs, if_pos rfl]
  · have h1' : p_X5_within a1 (0 : Int32) (30 : Int32) = some 0 := h1
    have h2' : p_X6_in a1.toInt64 (0 : Int64) (30 : Int64) = some 0 := h2
    refine ⟨(-1, nI n, N_years, N_cells), (-1, nI n, m_seen), ?_, ?_, rfl, hL, hA0, hA1, hT, hN, hS0, hS1, hS2, hS3, e1, e2, e3, e4, e5⟩
    · unfold p_X5_see; rw [h1', zbs, if_pos rfl]
    · unfold p_X6_see; rw [h2', zbs, if_pos rfl]
set_option maxHeartbeats 4000000 in
theorem q_keep {L_draws : Int32} {L_foot : Int32} {L_point : Int32} {L_stiff : Int32} {L_bears : Int32} {L_year : Int32} {L_traits : Nat → Int32} {A0_draws : Int32} {A0_foot : Int32} {A0_point : Int32} {A0_stiff : Int32} {A0_bears : Int32} {A0_year : Int32} {A0_traits : Nat → Int32} {A1_draws : Int32} {A1_foot : Int32} {A1_point : Int32} {A1_stiff : Int32} {A1_bears : Int32} {A1_year : Int32} {A1_traits : Nat → Int32} {x_kept : Nat → Int32} {P_length : Int32} {P_bytes : Nat → Int32} {N_size : Int32} {N_years : Nat → Int32} {N_cells : Nat → Int32} {S0_lane : Int32} {S0_size : Int32} {S0_cells : Nat → Int32} {S1_lane : Int32} {S1_size : Int32} {S1_cells : Nat → Int32} {S2_lane : Int32} {S2_size : Int32} {S2_cells : Nat → Int32} {S3_lane : Int32} {S3_size : Int32} {S3_cells : Nat → Int32} {x_textFault : Int32} {x_readFault : Int32} {m_state : Nat → Int32} {m_tape : Nat → Int32} {m_taped : Int32} {m_fault : Int32} {m_cuts : Nat → Int32} {m_letters : Nat → Int32} {m_silent : Int32} {m_seen : Nat → Int32} {m_seenMany : Int32} {m_isKept : Nat → Int32} {m_lanes : Nat → Int32} {m_lengths : Nat → Int32} {m_sheetCells : Nat → Int32} {m_torn : Int32} (a1 : Int32) (hR : zRel L_draws L_foot L_point L_stiff L_bears L_year L_traits A0_draws A0_foot A0_point A0_stiff A0_bears A0_year A0_traits A1_draws A1_foot A1_point A1_stiff A1_bears A1_year A1_traits x_kept P_length P_bytes N_size N_years N_cells S0_lane S0_size S0_cells S1_lane S1_size S1_cells S2_lane S2_size S2_cells S3_lane S3_size S3_cells x_textFault x_readFault m_state m_tape m_taped m_fault m_cuts m_letters m_silent m_seen m_seenMany m_isKept m_lanes m_lengths m_sheetCells m_torn) : ∃ (oX5 : Int32 × Int32 × Int32 × Int32 × Int32 × Int32 × Int32 × (Nat → Int32) × Int32 × Int32 × Int32 × Int32 × Int32 × Int32 × (Nat → Int32) × (Nat → Int32)) (oX6 : Int32 × (Nat → Int32) × (Nat → Int32)), p_X5_keep a1 L_draws L_foot L_point L_stiff L_bears L_year L_traits A0_draws A0_foot A0_point A0_stiff A0_bears A0_year A0_traits A1_draws A1_foot A1_point A1_stiff A1_bears A1_year A1_traits x_kept = some oX5 ∧ p_X6_keep a1 m_state m_isKept = some oX6 ∧ oX5.1 = oX6.1 ∧ zRel L_draws L_foot L_point L_stiff L_bears L_year L_traits oX5.2.1 oX5.2.2.1 oX5.2.2.2.1 oX5.2.2.2.2.1 oX5.2.2.2.2.2.1 oX5.2.2.2.2.2.2.1 oX5.2.2.2.2.2.2.2.1 oX5.2.2.2.2.2.2.2.2.1 oX5.2.2.2.2.2.2.2.2.2.1 oX5.2.2.2.2.2.2.2.2.2.2.1 oX5.2.2.2.2.2.2.2.2.2.2.2.1 oX5.2.2.2.2.2.2.2.2.2.2.2.2.1 oX5.2.2.2.2.2.2.2.2.2.2.2.2.2.1 oX5.2.2.2.2.2.2.2.2.2.2.2.2.2.2.1 oX5.2.2.2.2.2.2.2.2.2.2.2.2.2.2.2 P_length P_bytes N_size N_years N_cells S0_lane S0_size S0_cells S1_lane S1_size S1_cells S2_lane S2_size S2_cells S3_lane S3_size S3_cells x_textFault x_readFault oX6.2.1 m_tape m_taped m_fault m_cuts m_letters m_silent m_seen m_seenMany oX6.2.2 m_lanes m_lengths m_sheetCells m_torn := by
  obtain ⟨hL, hA0, hA1, hT, hN, hS0, hS1, hS2, hS3, e1, e2, e3, e4, e5⟩ := hR
  rcases arg_in a1 (lo := 0) (hi := 1) (by decide) (by decide) with ⟨j, -, hj, rfl, h1, h2⟩ | ⟨h1, h2, -⟩
  · have h1' : p_X5_within (nI j) (0 : Int32) (1 : Int32) = some 1 := h1
    have h2' : p_X6_in (nI j).toInt64 (0 : Int64) (1 : Int64) = some 1 := h2
    rcases (show j = 0 ∨ j = 1 by omega) with rfl | rfl
    · have hc : p_X6_copies (0 : Int32) ((26 : Int32) * (nI 0 + (1 : Int32))) m_state = some (zcp m_state 0 26) := b_copies (a := 0) (b := 26) (by decide) (by decide) (by decide)
      have hb : (if x_kept 0 = 0 then (0 : Int32) else 1) = x_kept 0 := by rcases hA0.2.1 with q | q <;> rw [q] <;> decide
      refine ⟨(x_kept 0, L_draws, L_foot, L_point, L_stiff, L_bears, L_year, zct L_traits A0_traits, A1_draws, A1_foot, A1_point, A1_stiff, A1_bears, A1_year, A1_traits, upd x_kept 0 1), (x_kept 0, zcp m_state 0 26, upd m_isKept 0 1), ?_, ?_, rfl, zPg_keep hL (fun i hi => zcp_out (by omega)), ⟨rfl, Or.inr rfl, fun _ => zPg_ct hL (fun i hi => zcp_in hi)⟩, zIm_keep hA1 (fun i hi => zcp_out (by omega)), hT, hN, hS0, hS1, hS2, hS3, e1, e2, e3, e4, e5⟩
      · unfold p_X5_keep p_X4_copyFrom
        rw [h1', zbs, if_neg (show ¬ (1 : Int32) = 0 by decide), z_get_n (by decide) (by decide), zbs, if_pos (show nI 0 = (0 : Int32) from rfl), zbs, vb1, z_set_n (by decide) (by decide), zbs, hb]
        rfl
      · unfold p_X6_keep
        rw [h2', zbs, if_neg (show ¬ (1 : Int32) = 0 by decide), hc, zbs, z_get_n (by decide) (by decide), zbs, vb1, z_set_n (by decide) (by decide), ← hA0.1]
        rcases hA0.2.1 with q | q
        · rw [q, if_pos rfl]; rfl
        · rw [q, if_neg (show ¬ (1 : Int32) = 0 by decide)]; rfl
    · have hc : p_X6_copies (0 : Int32) ((26 : Int32) * (nI 1 + (1 : Int32))) m_state = some (zcp m_state 0 52) := b_copies (a := 0) (b := 52) (by decide) (by decide) (by decide)
      have hb : (if x_kept 1 = 0 then (0 : Int32) else 1) = x_kept 1 := by rcases hA1.2.1 with q | q <;> rw [q] <;> decide
      refine ⟨(x_kept 1, A0_draws, A0_foot, A0_point, A0_stiff, A0_bears, A0_year, A0_traits, L_draws, L_foot, L_point, L_stiff, L_bears, L_year, zct L_traits A1_traits, upd x_kept 1 1), (x_kept 1, zcp m_state 0 52, upd m_isKept 1 1), ?_, ?_, rfl, zPg_keep hL (fun i hi => zcp_out (by omega)), zIm_keep hA0 (fun i hi => zcp_out (by omega)), ⟨rfl, Or.inr rfl, fun _ => zPg_ct hL (fun i hi => zcp_in hi)⟩, hT, hN, hS0, hS1, hS2, hS3, e1, e2, e3, e4, e5⟩
      · unfold p_X5_keep p_X4_copyFrom
        rw [h1', zbs, if_neg (show ¬ (1 : Int32) = 0 by decide), z_get_n (by decide) (by decide), zbs, if_neg (show ¬ nI 1 = (0 : Int32) by decide), if_pos (show nI 1 = (1 : Int32) from rfl), zbs, vb1, z_set_n (by decide) (by decide), zbs, hb]
        rfl
      · unfold p_X6_keep
        rw [h2', zbs, if_neg (show ¬ (1 : Int32) = 0 by decide), hc, zbs, z_get_n (by decide) (by decide), zbs, vb1, z_set_n (by decide) (by decide), ← hA1.1]
        rcases hA1.2.1 with q | q
        · rw [q, if_pos rfl]; rfl
        · rw [q, if_neg (show ¬ (1 : Int32) = 0 by decide)]; rfl
  · have h1' : p_X5_within a1 (0 : Int32) (1 : Int32) = some 0 := h1
    have h2' : p_X6_in a1.toInt64 (0 : Int64) (1 : Int64) = some 0 := h2
    refine ⟨(-1, A0_draws, A0_foot, A0_point, A0_stiff, A0_bears, A0_year, A0_traits, A1_draws, A1_foot, A1_point, A1_stiff, A1_bears, A1_year, A1_traits, x_kept), (-1, m_state, m_isKept), ?_, ?_, rfl, hL, hA0, hA1, hT, hN, hS0, hS1, hS2, hS3, e1, e2, e3, e4, e5⟩
    · unfold p_X5_keep; rw [h1', zbs, if_pos rfl]
    · unfold p_X6_keep; rw [h2', zbs, if_pos rfl]
set_option maxHeartbeats 4000000 in
theorem q_back {L_draws : Int32} {L_foot : Int32} {L_point : Int32} {L_stiff : Int32} {L_bears : Int32} {L_year : Int32} {L_traits : Nat → Int32} {A0_draws : Int32} {A0_foot : Int32} {A0_point : Int32} {A0_stiff : Int32} {A0_bears : Int32} {A0_year : Int32} {A0_traits : Nat → Int32} {A1_draws : Int32} {A1_foot : Int32} {A1_point : Int32} {A1_stiff : Int32} {A1_bears : Int32} {A1_year : Int32} {A1_traits : Nat → Int32} {x_kept : Nat → Int32} {P_length : Int32} {P_bytes : Nat → Int32} {N_size : Int32} {N_years : Nat → Int32} {N_cells : Nat → Int32} {S0_lane : Int32} {S0_size : Int32} {S0_cells : Nat → Int32} {S1_lane : Int32} {S1_size : Int32} {S1_cells : Nat → Int32} {S2_lane : Int32} {S2_size : Int32} {S2_cells : Nat → Int32} {S3_lane : Int32} {S3_size : Int32} {S3_cells : Nat → Int32} {x_textFault : Int32} {x_readFault : Int32} {m_state : Nat → Int32} {m_tape : Nat → Int32} {m_taped : Int32} {m_fault : Int32} {m_cuts : Nat → Int32} {m_letters : Nat → Int32} {m_silent : Int32} {m_seen : Nat → Int32} {m_seenMany : Int32} {m_isKept : Nat → Int32} {m_lanes : Nat → Int32} {m_lengths : Nat → Int32} {m_sheetCells : Nat → Int32} {m_torn : Int32} (a1 : Int32) (hR : zRel L_draws L_foot L_point L_stiff L_bears L_year L_traits A0_draws A0_foot A0_point A0_stiff A0_bears A0_year A0_traits A1_draws A1_foot A1_point A1_stiff A1_bears A1_year A1_traits x_kept P_length P_bytes N_size N_years N_cells S0_lane S0_size S0_cells S1_lane S1_size S1_cells S2_lane S2_size S2_cells S3_lane S3_size S3_cells x_textFault x_readFault m_state m_tape m_taped m_fault m_cuts m_letters m_silent m_seen m_seenMany m_isKept m_lanes m_lengths m_sheetCells m_torn) : ∃ (oX5 : Int32 × Int32 × Int32 × Int32 × Int32 × Int32 × Int32 × (Nat → Int32)) (oX6 : Int32 × (Nat → Int32)), p_X5_back a1 L_draws L_foot L_point L_stiff L_bears L_year L_traits A0_draws A0_foot A0_point A0_stiff A0_bears A0_year A0_traits A1_draws A1_foot A1_point A1_stiff A1_bears A1_year A1_traits x_kept = some oX5 ∧ p_X6_back a1 m_state m_isKept = some oX6 ∧ oX5.1 = oX6.1 ∧ zRel oX5.2.1 oX5.2.2.1 oX5.2.2.2.1 oX5.2.2.2.2.1 oX5.2.2.2.2.2.1 oX5.2.2.2.2.2.2.1 oX5.2.2.2.2.2.2.2 A0_draws A0_foot A0_point A0_stiff A0_bears A0_year A0_traits A1_draws A1_foot A1_point A1_stiff A1_bears A1_year A1_traits x_kept P_length P_bytes N_size N_years N_cells S0_lane S0_size S0_cells S1_lane S1_size S1_cells S2_lane S2_size S2_cells S3_lane S3_size S3_cells x_textFault x_readFault oX6.2 m_tape m_taped m_fault m_cuts m_letters m_silent m_seen m_seenMany m_isKept m_lanes m_lengths m_sheetCells m_torn := by
  obtain ⟨hL, hA0, hA1, hT, hN, hS0, hS1, hS2, hS3, e1, e2, e3, e4, e5⟩ := hR
  rcases arg_in a1 (lo := 0) (hi := 1) (by decide) (by decide) with ⟨j, -, hj, rfl, h1, h2⟩ | ⟨h1, h2, -⟩
  · have h1' : p_X5_within (nI j) (0 : Int32) (1 : Int32) = some 1 := h1
    have h2' : p_X6_in (nI j).toInt64 (0 : Int64) (1 : Int64) = some 1 := h2
    rcases (show j = 0 ∨ j = 1 by omega) with rfl | rfl
    · have hc : p_X6_copies ((26 : Int32) * (nI 0 + (1 : Int32))) (0 : Int32) m_state = some (zcp m_state 26 0) := b_copies (a := 26) (b := 0) (by decide) (by decide) (by decide)
      rcases hA0.2.1 with q | q
      · refine ⟨(-2, L_draws, L_foot, L_point, L_stiff, L_bears, L_year, L_traits), (-2, m_state), ?_, ?_, rfl, hL, hA0, hA1, hT, hN, hS0, hS1, hS2, hS3, e1, e2, e3, e4, e5⟩
        · unfold p_X5_back
          rw [h1', zbs, if_neg (show ¬ (1 : Int32) = 0 by decide), z_get_n (by decide) (by decide), zbs, if_pos q]
        · unfold p_X6_back
          rw [h2', zbs, if_neg (show ¬ (1 : Int32) = 0 by decide), z_get_n (by decide) (by decide), zbs, if_pos (hA0.1.symm.trans q)]
      · have hp := hA0.2.2 q
        have q0 : ¬ x_kept 0 = 0 := by rw [q]; decide
        have hy : zcp m_state 26 0 25 = A0_year := (zcp_in (a := 26) (b := 0) (j := 25) (by decide)).trans (zPg_year hp)
        refine ⟨(A0_year, A0_draws, A0_foot, A0_point, A0_stiff, A0_bears, A0_year, zct A0_traits L_traits), (A0_year, zcp m_state 26 0), ?_, ?_, rfl, zPg_ct hp (fun i hi => zcp_in hi), zIm_keep hA0 (fun i hi => zcp_out (by omega)), zIm_keep hA1 (fun i hi => zcp_out (by omega)), hT, hN, hS0, hS1, hS2, hS3, e1, e2, e3, e4, e5⟩
        · unfold p_X5_back p_X4_copyFrom
          rw [h1', zbs, if_neg (show ¬ (1 : Int32) = 0 by decide), z_get_n (by decide) (by decide), zbs, if_neg q0, if_pos (show nI 0 = (0 : Int32) from rfl)]
          rfl
        · unfold p_X6_back
          rw [h2', zbs, if_neg (show ¬ (1 : Int32) = 0 by decide), z_get_n (by decide) (by decide), zbs, if_neg (fun z => q0 (hA0.1.trans z)), hc, zbs, z_get_e 25 (show (25 : Int32) = nI 25 from rfl) (by decide) (by decide), hy]
          rfl
    · have hc : p_X6_copies ((26 : Int32) * (nI 1 + (1 : Int32))) (0 : Int32) m_state = some (zcp m_state 52 0) := b_copies (a := 52) (b := 0) (by decide) (by decide) (by decide)
      rcases hA1.2.1 with q | q
      · refine ⟨(-2, L_draws, L_foot, L_point, L_stiff, L_bears, L_year, L_traits), (-2, m_state), ?_, ?_, rfl, hL, hA0, hA1, hT, hN, hS0, hS1, hS2, hS3, e1, e2, e3, e4, e5⟩
        · unfold p_X5_back
          rw [h1', zbs, if_neg (show ¬ (1 : Int32) = 0 by decide), z_get_n (by decide) (by decide), zbs, if_pos q]
        · unfold p_X6_back
          rw [h2', zbs, if_neg (show ¬ (1 : Int32) = 0 by decide), z_get_n (by decide) (by decide), zbs, if_pos (hA1.1.symm.trans q)]
      · have hp := hA1.2.2 q
        have q0 : ¬ x_kept 1 = 0 := by rw [q]; decide
        have hy : zcp m_state 52 0 25 = A1_year := (zcp_in (a := 52) (b := 0) (j := 25) (by decide)).trans (zPg_year hp)
        refine ⟨(A1_year, A1_draws, A1_foot, A1_point, A1_stiff, A1_bears, A1_year, zct A1_traits L_traits), (A1_year, zcp m_state 52 0), ?_, ?_, rfl, zPg_ct hp (fun i hi => zcp_in hi), zIm_keep hA0 (fun i hi => zcp_out (by omega)), zIm_keep hA1 (fun i hi => zcp_out (by omega)), hT, hN, hS0, hS1, hS2, hS3, e1, e2, e3, e4, e5⟩
        · unfold p_X5_back p_X4_copyFrom
          rw [h1', zbs, if_neg (show ¬ (1 : Int32) = 0 by decide), z_get_n (by decide) (by decide), zbs, if_neg q0, if_neg (show ¬ nI 1 = (0 : Int32) by decide), if_pos (show nI 1 = (1 : Int32) from rfl)]
          rfl
        · unfold p_X6_back
          rw [h2', zbs, if_neg (show ¬ (1 : Int32) = 0 by decide), z_get_n (by decide) (by decide), zbs, if_neg (fun z => q0 (hA1.1.trans z)), hc, zbs, z_get_e 25 (show (25 : Int32) = nI 25 from rfl) (by decide) (by decide), hy]
          rfl
  · have h1' : p_X5_within a1 (0 : Int32) (1 : Int32) = some 0 := h1
    have h2' : p_X6_in a1.toInt64 (0 : Int64) (1 : Int64) = some 0 := h2
    refine ⟨(-1, L_draws, L_foot, L_point, L_stiff, L_bears, L_year, L_traits), (-1, m_state), ?_, ?_, rfl, hL, hA0, hA1, hT, hN, hS0, hS1, hS2, hS3, e1, e2, e3, e4, e5⟩
    · unfold p_X5_back; rw [h1', zbs, if_pos rfl]
    · unfold p_X6_back; rw [h2', zbs, if_pos rfl]
