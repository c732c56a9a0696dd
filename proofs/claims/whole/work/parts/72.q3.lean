set_option maxHeartbeats 4000000 in
theorem q_need {L_draws : Int32} {L_foot : Int32} {L_point : Int32} {L_stiff : Int32} {L_bears : Int32} {L_year : Int32} {L_traits : Nat → Int32} {A0_draws : Int32} {A0_foot : Int32} {A0_point : Int32} {A0_stiff : Int32} {A0_bears : Int32} {A0_year : Int32} {A0_traits : Nat → Int32} {A1_draws : Int32} {A1_foot : Int32} {A1_point : Int32} {A1_stiff : Int32} {A1_bears : Int32} {A1_year : Int32} {A1_traits : Nat → Int32} {x_kept : Nat → Int32} {P_length : Int32} {P_bytes : Nat → Int32} {N_size : Int32} {N_years : Nat → Int32} {N_cells : Nat → Int32} {S0_lane : Int32} {S0_size : Int32} {S0_cells : Nat → Int32} {S1_lane : Int32} {S1_size : Int32} {S1_cells : Nat → Int32} {S2_lane : Int32} {S2_size : Int32} {S2_cells : Nat → Int32} {S3_lane : Int32} {S3_size : Int32} {S3_cells : Nat → Int32} {x_textFault : Int32} {x_readFault : Int32} {m_state : Nat → Int32} {m_tape : Nat → Int32} {m_taped : Int32} {m_fault : Int32} {m_cuts : Nat → Int32} {m_letters : Nat → Int32} {m_silent : Int32} {m_seen : Nat → Int32} {m_seenMany : Int32} {m_isKept : Nat → Int32} {m_lanes : Nat → Int32} {m_lengths : Nat → Int32} {m_sheetCells : Nat → Int32} {m_torn : Int32} (T_draws : Int32) (T_foot : Int32) (T_point : Int32) (T_stiff : Int32) (T_bears : Int32) (T_year : Int32) (T_traits : Nat → Int32) (m_greatest : Int32) (m_moves : Int32) (m_holders : Int32) (hR : zRel L_draws L_foot L_point L_stiff L_bears L_year L_traits A0_draws A0_foot A0_point A0_stiff A0_bears A0_year A0_traits A1_draws A1_foot A1_point A1_stiff A1_bears A1_year A1_traits x_kept P_length P_bytes N_size N_years N_cells S0_lane S0_size S0_cells S1_lane S1_size S1_cells S2_lane S2_size S2_cells S3_lane S3_size S3_cells x_textFault x_readFault m_state m_tape m_taped m_fault m_cuts m_letters m_silent m_seen m_seenMany m_isKept m_lanes m_lengths m_sheetCells m_torn) : ∃ (oX5 : Int32 × Int32 × Int32 × Int32 × Int32 × Int32 × Int32 × (Nat → Int32)) (oX6 : Int32 × Int32 × Int32 × Int32 × (Nat → Int32)), p_X5_need L_draws L_foot L_point L_stiff L_bears L_year L_traits T_draws T_foot T_point T_stiff T_bears T_year T_traits = some oX5 ∧ p_X6_need m_silent m_greatest m_moves m_holders m_state = some oX6 ∧ oX5.1 = oX6.1 ∧ zRel L_draws L_foot L_point L_stiff L_bears L_year L_traits A0_draws A0_foot A0_point A0_stiff A0_bears A0_year A0_traits A1_draws A1_foot A1_point A1_stiff A1_bears A1_year A1_traits x_kept P_length P_bytes N_size N_years N_cells S0_lane S0_size S0_cells S1_lane S1_size S1_cells S2_lane S2_size S2_cells S3_lane S3_size S3_cells x_textFault x_readFault oX6.2.2.2.2 m_tape m_taped m_fault m_cuts m_letters m_silent m_seen m_seenMany m_isKept m_lanes m_lengths m_sheetCells m_torn := by
  obtain ⟨hL, hA0, hA1, hT, hN, hS0, hS1, hS2, hS3, e1, e2, e3, e4, e5⟩ := hR
  subst e3
  have hL0 := hL
  obtain ⟨T, pt, yr, ⟨hV, hp, hy, hw⟩, ⟨rfl, rfl, rfl, rfl, rfl, rfl, hA⟩, hM⟩ := hL
  obtain ⟨ja, ha⟩ := a_need hV hA hp hy T_draws T_foot T_point T_stiff T_bears T_year T_traits
  obtain ⟨jb, hb, hlo⟩ := b_need hV hM hp hy m_greatest m_moves m_holders
  exact ⟨_, _, ha, hb, rfl, zLo_Pg hlo hL0, zLo_I1 hlo hA0, zLo_I2 hlo hA1, hT, hN, hS0, hS1, hS2, hS3, e1, e2, rfl, e4, e5⟩
set_option maxHeartbeats 4000000 in
theorem q_brace {L_draws : Int32} {L_foot : Int32} {L_point : Int32} {L_stiff : Int32} {L_bears : Int32} {L_year : Int32} {L_traits : Nat → Int32} {A0_draws : Int32} {A0_foot : Int32} {A0_point : Int32} {A0_stiff : Int32} {A0_bears : Int32} {A0_year : Int32} {A0_traits : Nat → Int32} {A1_draws : Int32} {A1_foot : Int32} {A1_point : Int32} {A1_stiff : Int32} {A1_bears : Int32} {A1_year : Int32} {A1_traits : Nat → Int32} {x_kept : Nat → Int32} {P_length : Int32} {P_bytes : Nat → Int32} {N_size : Int32} {N_years : Nat → Int32} {N_cells : Nat → Int32} {S0_lane : Int32} {S0_size : Int32} {S0_cells : Nat → Int32} {S1_lane : Int32} {S1_size : Int32} {S1_cells : Nat → Int32} {S2_lane : Int32} {S2_size : Int32} {S2_cells : Nat → Int32} {S3_lane : Int32} {S3_size : Int32} {S3_cells : Nat → Int32} {x_textFault : Int32} {x_readFault : Int32} {m_state : Nat → Int32} {m_tape : Nat → Int32} {m_taped : Int32} {m_fault : Int32} {m_cuts : Nat → Int32} {m_letters : Nat → Int32} {m_silent : Int32} {m_seen : Nat → Int32} {m_seenMany : Int32} {m_isKept : Nat → Int32} {m_lanes : Nat → Int32} {m_lengths : Nat → Int32} {m_sheetCells : Nat → Int32} {m_torn : Int32} (T_draws : Int32) (T_foot : Int32) (T_point : Int32) (T_stiff : Int32) (T_bears : Int32) (T_year : Int32) (T_traits : Nat → Int32) (m_greatest : Int32) (m_moves : Int32) (m_holders : Int32) (hR : zRel L_draws L_foot L_point L_stiff L_bears L_year L_traits A0_draws A0_foot A0_point A0_stiff A0_bears A0_year A0_traits A1_draws A1_foot A1_point A1_stiff A1_bears A1_year A1_traits x_kept P_length P_bytes N_size N_years N_cells S0_lane S0_size S0_cells S1_lane S1_size S1_cells S2_lane S2_size S2_cells S3_lane S3_size S3_cells x_textFault x_readFault m_state m_tape m_taped m_fault m_cuts m_letters m_silent m_seen m_seenMany m_isKept m_lanes m_lengths m_sheetCells m_torn) : ∃ (oX5 : Int32 × Int32 × Int32 × Int32 × Int32 × Int32 × Int32 × (Nat → Int32)) (oX6 : Int32 × Int32 × Int32 × Int32 × (Nat → Int32)), p_X5_brace L_draws L_foot L_point L_stiff L_bears L_year L_traits T_draws T_foot T_point T_stiff T_bears T_year T_traits = some oX5 ∧ p_X6_brace m_silent m_greatest m_moves m_holders m_state = some oX6 ∧ oX5.1 = oX6.1 ∧ zRel L_draws L_foot L_point L_stiff L_bears L_year L_traits A0_draws A0_foot A0_point A0_stiff A0_bears A0_year A0_traits A1_draws A1_foot A1_point A1_stiff A1_bears A1_year A1_traits x_kept P_length P_bytes N_size N_years N_cells S0_lane S0_size S0_cells S1_lane S1_size S1_cells S2_lane S2_size S2_cells S3_lane S3_size S3_cells x_textFault x_readFault oX6.2.2.2.2 m_tape m_taped m_fault m_cuts m_letters m_silent m_seen m_seenMany m_isKept m_lanes m_lengths m_sheetCells m_torn := by
  obtain ⟨hL, hA0, hA1, hT, hN, hS0, hS1, hS2, hS3, e1, e2, e3, e4, e5⟩ := hR
  subst e3
  have hL0 := hL
  obtain ⟨T, pt, yr, ⟨hV, hp, hy, hw⟩, ⟨rfl, rfl, rfl, rfl, rfl, rfl, hA⟩, hM⟩ := hL
  obtain ⟨ja, ha⟩ := a_brace hV hA hp hy T_draws T_foot T_point T_stiff T_bears T_year T_traits
  obtain ⟨jb, hb, hlo⟩ := b_brace hV hM hp hy m_greatest m_moves m_holders
  exact ⟨_, _, ha, hb, rfl, zLo_Pg hlo hL0, zLo_I1 hlo hA0, zLo_I2 hlo hA1, hT, hN, hS0, hS1, hS2, hS3, e1, e2, rfl, e4, e5⟩
set_option maxHeartbeats 4000000 in
theorem q_lure {L_draws : Int32} {L_foot : Int32} {L_point : Int32} {L_stiff : Int32} {L_bears : Int32} {L_year : Int32} {L_traits : Nat → Int32} {A0_draws : Int32} {A0_foot : Int32} {A0_point : Int32} {A0_stiff : Int32} {A0_bears : Int32} {A0_year : Int32} {A0_traits : Nat → Int32} {A1_draws : Int32} {A1_foot : Int32} {A1_point : Int32} {A1_stiff : Int32} {A1_bears : Int32} {A1_year : Int32} {A1_traits : Nat → Int32} {x_kept : Nat → Int32} {P_length : Int32} {P_bytes : Nat → Int32} {N_size : Int32} {N_years : Nat → Int32} {N_cells : Nat → Int32} {S0_lane : Int32} {S0_size : Int32} {S0_cells : Nat → Int32} {S1_lane : Int32} {S1_size : Int32} {S1_cells : Nat → Int32} {S2_lane : Int32} {S2_size : Int32} {S2_cells : Nat → Int32} {S3_lane : Int32} {S3_size : Int32} {S3_cells : Nat → Int32} {x_textFault : Int32} {x_readFault : Int32} {m_state : Nat → Int32} {m_tape : Nat → Int32} {m_taped : Int32} {m_fault : Int32} {m_cuts : Nat → Int32} {m_letters : Nat → Int32} {m_silent : Int32} {m_seen : Nat → Int32} {m_seenMany : Int32} {m_isKept : Nat → Int32} {m_lanes : Nat → Int32} {m_lengths : Nat → Int32} {m_sheetCells : Nat → Int32} {m_torn : Int32} (T_draws : Int32) (T_foot : Int32) (T_point : Int32) (T_stiff : Int32) (T_bears : Int32) (T_year : Int32) (T_traits : Nat → Int32) (a1 : Int32) (a2 : Int32) (hR : zRel L_draws L_foot L_point L_stiff L_bears L_year L_traits A0_draws A0_foot A0_point A0_stiff A0_bears A0_year A0_traits A1_draws A1_foot A1_point A1_stiff A1_bears A1_year A1_traits x_kept P_length P_bytes N_size N_years N_cells S0_lane S0_size S0_cells S1_lane S1_size S1_cells S2_lane S2_size S2_cells S3_lane S3_size S3_cells x_textFault x_readFault m_state m_tape m_taped m_fault m_cuts m_letters m_silent m_seen m_seenMany m_isKept m_lanes m_lengths m_sheetCells m_torn) : ∃ (oX5 : Int32 × Int32 × Int32 × Int32 × Int32 × Int32 × Int32 × (Nat → Int32)) (oX6 : Int32 × (Nat → Int32)), p_X5_lure a1 a2 L_draws L_foot L_point L_stiff L_bears L_year L_traits T_draws T_foot T_point T_stiff T_bears T_year T_traits = some oX5 ∧ p_X6_lure a1 a2 m_silent m_state = some oX6 ∧ oX5.1 = oX6.1 ∧ zRel L_draws L_foot L_point L_stiff L_bears L_year L_traits A0_draws A0_foot A0_point A0_stiff A0_bears A0_year A0_traits A1_draws A1_foot A1_point A1_stiff A1_bears A1_year A1_traits x_kept P_length P_bytes N_size N_years N_cells S0_lane S0_size S0_cells S1_lane S1_size S1_cells S2_lane S2_size S2_cells S3_lane S3_size S3_cells x_textFault x_readFault oX6.2 m_tape m_taped m_fault m_cuts m_letters m_silent m_seen m_seenMany m_isKept m_lanes m_lengths m_sheetCells m_torn := by
  have hR0 := hR
  obtain ⟨hL, hA0, hA1, hT, hN, hS0, hS1, hS2, hS3, e1, e2, e3, e4, e5⟩ := hR
  subst e3
  have hL0 := hL
  obtain ⟨T, pt, yr, ⟨hV, hp, hy, hw⟩, ⟨rfl, rfl, rfl, rfl, rfl, rfl, hA⟩, hM⟩ := hL
  rcases arg_draw a1 hV.1 hM.1 with ⟨i, hi, rfl, h1, h2⟩ | ⟨h1, h2, -⟩
  · rcases arg_cell a2 with ⟨c, hc, rfl, h3, h4⟩ | ⟨h3, h4, -⟩
    · obtain ⟨ra, ha, ja, ha2⟩ := a_lure hV hA hp hy hi hc T_draws T_foot T_point T_stiff T_bears T_year T_traits
      obtain ⟨rb, hb, jb, hb2, hlo⟩ := b_lure hV hM hp hy hi hc
      refine ⟨(zrs1 (fa_first (zlure T pt yr i c) 20) 20, ja), (zrs1 (fa_first (zlure T pt yr i c) 20) 20, jb), ?_, ?_, rfl, zLo_Pg hlo hL0, zLo_I1 hlo hA0, zLo_I2 hlo hA1, hT, hN, hS0, hS1, hS2, hS3, e1, e2, rfl, e4, e5⟩
      · unfold p_X5_lure
        rw [h1, zbs, if_neg (show ¬ (1 : Int32) = 0 by decide), h3, zbs, if_neg (show ¬ (1 : Int32) = 0 by decide), zgL_1, zbs, ha, zbs]
        exact ha2
      · unfold p_X6_lure
        rw [h2, zbs, if_neg (show ¬ (1 : Int32) = 0 by decide), h4, zbs, if_neg (show ¬ (1 : Int32) = 0 by decide), hb, zbs]
        exact hb2
    · refine ⟨(-1, T_draws, T_foot, T_point, T_stiff, T_bears, T_year, T_traits), (-1, m_state), ?_, ?_, rfl, hR0⟩
      · unfold p_X5_lure; rw [h1, zbs, if_neg (show ¬ (1 : Int32) = 0 by decide), h3, zbs, if_pos rfl]
      · unfold p_X6_lure; rw [h2, zbs, if_neg (show ¬ (1 : Int32) = 0 by decide), h4, zbs, if_pos rfl]
  · refine ⟨(-1, T_draws, T_foot, T_point, T_stiff, T_bears, T_year, T_traits), (-1, m_state), ?_, ?_, rfl, hR0⟩
    · unfold p_X5_lure; rw [h1, zbs, if_pos rfl]
    · unfold p_X6_lure; rw [h2, zbs, if_pos rfl]
set_option maxHeartbeats 4000000 in
theorem q_alter {L_draws : Int32} {L_foot : Int32} {L_point : Int32} {L_stiff : Int32} {L_bears : Int32} {L_year : Int32} {L_traits : Nat → Int32} {A0_draws : Int32} {A0_foot : Int32} {A0_point : Int32} {A0_stiff : Int32} {A0_bears : Int32} {A0_year : Int32} {A0_traits : Nat → Int32} {A1_draws : Int32} {A1_foot : Int32} {A1_point : Int32} {A1_stiff : Int32} {A1_bears : Int32} {A1_year : Int32} {A1_traits : Nat → Int32} {x_kept : Nat → Int32} {P_length : Int32} {P_bytes : Nat → Int32} {N_size : Int32} {N_years : Nat → Int32} {N_cells : Nat → Int32} {S0_lane : Int32} {S0_size : Int32} {S0_cells : Nat → Int32} {S1_lane : Int32} {S1_size : Int32} {S1_cells : Nat → Int32} {S2_lane : Int32} {S2_size : Int32} {S2_cells : Nat → Int32} {S3_lane : Int32} {S3_size : Int32} {S3_cells : Nat → Int32} {x_textFault : Int32} {x_readFault : Int32} {m_state : Nat → Int32} {m_tape : Nat → Int32} {m_taped : Int32} {m_fault : Int32} {m_cuts : Nat → Int32} {m_letters : Nat → Int32} {m_silent : Int32} {m_seen : Nat → Int32} {m_seenMany : Int32} {m_isKept : Nat → Int32} {m_lanes : Nat → Int32} {m_lengths : Nat → Int32} {m_sheetCells : Nat → Int32} {m_torn : Int32} (a1 : Int32) (a2 : Int32) (a3 : Int32) (hR : zRel L_draws L_foot L_point L_stiff L_bears L_year L_traits A0_draws A0_foot A0_point A0_stiff A0_bears A0_year A0_traits A1_draws A1_foot A1_point A1_stiff A1_bears A1_year A1_traits x_kept P_length P_bytes N_size N_years N_cells S0_lane S0_size S0_cells S1_lane S1_size S1_cells S2_lane S2_size S2_cells S3_lane S3_size S3_cells x_textFault x_readFault m_state m_tape m_taped m_fault m_cuts m_letters m_silent m_seen m_seenMany m_isKept m_lanes m_lengths m_sheetCells m_torn) : ∃ (oX5 : Int32 × (Nat → Int32)) (oX6 : Int32 × (Nat → Int32)), p_X5_alter a1 a2 a3 L_draws L_traits = some oX5 ∧ p_X6_alter a1 a2 a3 m_state = some oX6 ∧ oX5.1 = oX6.1 ∧ zRel L_draws L_foot L_point L_stiff L_bears L_year oX5.2 A0_draws A0_foot A0_point A0_stiff A0_bears A0_year A0_traits A1_draws A1_foot A1_point A1_stiff A1_bears A1_year A1_traits x_kept P_length P_bytes N_size N_years N_cells S0_lane S0_size S0_cells S1_lane S1_size S1_cells S2_lane S2_size S2_cells S3_lane S3_size S3_cells x_textFault x_readFault oX6.2 m_tape m_taped m_fault m_cuts m_letters m_silent m_seen m_seenMany m_isKept m_lanes m_lengths m_sheetCells m_torn := by
  have hR0 := hR
  obtain ⟨hL, hA0, hA1, hT, hN, hS0, hS1, hS2, hS3, e1, e2, e3, e4, e5⟩ := hR
  subst e3
  obtain ⟨T, pt, yr, hW, ⟨rfl, rfl, rfl, rfl, rfl, rfl, hA⟩, hM⟩ := hL
  have hd := hW.1.1
  rcases arg_draw a1 hd hM.1 with ⟨i, hi, rfl, h1, h2⟩ | ⟨h1, h2, -⟩
  · by_cases c0 : a2 = 0
    · subst c0
      rcases fit0 a3 with ⟨v, v0, v1, rfl, h3, h4⟩ | ⟨h3, h4⟩
      · obtain ⟨u1, u2⟩ := u_t0 hW hA hM hi v1
        have hb : p_X6_puts 1 (((5 : Int32) * (0 : Int32)) + nI i) (nI v) (0 : Int32) m_state = some (m_state (0 + i), upd m_state (0 + i) (nI v)) := by
          rw [show ((5 : Int32) * (0 : Int32)) + nI i = nI (0 + i) by rw [show ((5 : Int32) * (0 : Int32)) = nI 0 from rfl, nI_add], b_puts (by omega), zadd0, zsub0]
        refine ⟨(L_traits (4 * i + 0), upd L_traits (4 * i + 0) (nI v)), (m_state (0 + i), upd m_state (0 + i) (nI v)), ?_, ?_, u1.symm, u2, zIm_upd hA0 (by omega), zIm_upd hA1 (by omega), hT, hN, hS0, hS1, hS2, hS3, e1, e2, rfl, e4, e5⟩
        · unfold p_X5_alter
          rw [h1, zbs, if_neg z1n0, h3, zbs, if_neg z1n0]
          show (p_X4_trait (nI i) (nI 0) L_traits).bind _ = _
          rw [a_trait (T := T) (by omega) (by decide), zbs]
          show (p_X4_setTrait (nI i) (nI 0) (nI v) L_traits).bind _ = _
          rw [a_set (by omega) (by decide), zbs]
        · unfold p_X6_alter p_X6_alters
          rw [if_pos rfl, h4, zbs, zbs, h2, zbs, if_neg z1n0, if_neg z1n0, hb]
          rfl
      · refine ⟨(-1, L_traits), (-1, m_state), ?_, ?_, rfl, hR0⟩
        · unfold p_X5_alter; rw [h1, zbs, if_neg z1n0, h3, zbs, if_pos rfl]
        · unfold p_X6_alter p_X6_alters
          rw [if_pos rfl, h4, zbs, zbs, h2, zbs, if_neg z1n0, if_pos rfl, b_puts0]
          rfl
    · by_cases c1 : a2 = 1
      · subst c1
        rcases fit1 a3 with ⟨v, v0, v1, rfl, h3, h4⟩ | ⟨h3, h4⟩
        · obtain ⟨u1, u2⟩ := u_t1 hW hA hM hi ⟨v0, v1⟩
          have hb : p_X6_puts 1 (((5 : Int32) * (1 : Int32)) + nI i) (nI v) (0 : Int32) m_state = some (m_state (0 + 5 + i), upd m_state (0 + 5 + i) (nI v)) := by
            rw [show ((5 : Int32) * (1 : Int32)) + nI i = nI (0 + 5 + i) by rw [show ((5 : Int32) * (1 : Int32)) = nI 5 from rfl, nI_add], b_puts (by omega), zadd0, zsub0]
          refine ⟨(L_traits (4 * i + 1), upd L_traits (4 * i + 1) (nI v)), (m_state (0 + 5 + i), upd m_state (0 + 5 + i) (nI v)), ?_, ?_, u1.symm, u2, zIm_upd hA0 (by omega), zIm_upd hA1 (by omega), hT, hN, hS0, hS1, hS2, hS3, e1, e2, rfl, e4, e5⟩
          · unfold p_X5_alter
            rw [h1, zbs, if_neg z1n0, h3, zbs, if_neg z1n0]
            show (p_X4_trait (nI i) (nI 1) L_traits).bind _ = _
            rw [a_trait (T := T) (by omega) (by decide), zbs]
            show (p_X4_setTrait (nI i) (nI 1) (nI v) L_traits).bind _ = _
            rw [a_set (by omega) (by decide), zbs]
          · unfold p_X6_alter p_X6_alters
            rw [if_neg (show ¬ (1 : Int32) = 0 by decide), if_pos rfl, h4, zbs, zbs, h2, zbs, if_neg z1n0, if_neg z1n0, hb]
            rfl
        · refine ⟨(-1, L_traits), (-1, m_state), ?_, ?_, rfl, hR0⟩
          · unfold p_X5_alter; rw [h1, zbs, if_neg z1n0, h3, zbs, if_pos rfl]
          · unfold p_X6_alter p_X6_alters
            rw [if_neg (show ¬ (1 : Int32) = 0 by decide), if_pos rfl, h4, zbs, zbs, h2, zbs, if_neg z1n0, if_pos rfl, b_puts0]
            rfl
      · by_cases c2 : a2 = 2
        · subst c2
          rcases fit2 a3 with ⟨v, v0, v1, rfl, h3, h4⟩ | ⟨h3, h4⟩
          · obtain ⟨u1, u2⟩ := u_t2 hW hA hM hi (show v < 100 by omega)
            have hb : p_X6_puts 1 (((5 : Int32) * (2 : Int32)) + nI i) (nI v) (0 : Int32) m_state = some (m_state (0 + 10 + i), upd m_state (0 + 10 + i) (nI v)) := by
              rw [show ((5 : Int32) * (2 : Int32)) + nI i = nI (0 + 10 + i) by rw [show ((5 : Int32) * (2 : Int32)) = nI 10 from rfl, nI_add], b_puts (by omega), zadd0, zsub0]
            refine ⟨(L_traits (4 * i + 2), upd L_traits (4 * i + 2) (nI v)), (m_state (0 + 10 + i), upd m_state (0 + 10 + i) (nI v)), ?_, ?_, u1.symm, u2, zIm_upd hA0 (by omega), zIm_upd hA1 (by omega), hT, hN, hS0, hS1, hS2, hS3, e1, e2, rfl, e4, e5⟩
            · unfold p_X5_alter
              rw [h1, zbs, if_neg z1n0, h3, zbs, if_neg z1n0]
              show (p_X4_trait (nI i) (nI 2) L_traits).bind _ = _
              rw [a_trait (T := T) (by omega) (by decide), zbs]
              show (p_X4_setTrait (nI i) (nI 2) (nI v) L_traits).bind _ = _
              rw [a_set (by omega) (by decide), zbs]
            · unfold p_X6_alter p_X6_alters
              rw [if_neg (show ¬ (2 : Int32) = 0 by decide), if_neg (show ¬ (2 : Int32) = 1 by decide), if_pos rfl, h4, zbs, zbs, h2, zbs, if_neg z1n0, if_neg z1n0, hb]
              rfl
          · refine ⟨(-1, L_traits), (-1, m_state), ?_, ?_, rfl, hR0⟩
            · unfold p_X5_alter; rw [h1, zbs, if_neg z1n0, h3, zbs, if_pos rfl]
            · unfold p_X6_alter p_X6_alters
              rw [if_neg (show ¬ (2 : Int32) = 0 by decide), if_neg (show ¬ (2 : Int32) = 1 by decide), if_pos rfl, h4, zbs, zbs, h2, zbs, if_neg z1n0, if_pos rfl, b_puts0]
              rfl
        · by_cases c3 : a2 = 3
          · subst c3
            rcases fit3 a3 with ⟨v, v0, v1, rfl, h3, h4⟩ | ⟨h3, h4⟩
            · obtain ⟨u1, u2⟩ := u_t3 hW hA hM hi v1
              have hb : p_X6_puts 1 (((5 : Int32) * (3 : Int32)) + nI i) (nI v) (0 : Int32) m_state = some (m_state (0 + 15 + i), upd m_state (0 + 15 + i) (nI v)) := by
                rw [show ((5 : Int32) * (3 : Int32)) + nI i = nI (0 + 15 + i) by rw [show ((5 : Int32) * (3 : Int32)) = nI 15 from rfl, nI_add], b_puts (by omega), zadd0, zsub0]
              refine ⟨(L_traits (4 * i + 3), upd L_traits (4 * i + 3) (nI v)), (m_state (0 + 15 + i), upd m_state (0 + 15 + i) (nI v)), ?_, ?_, u1.symm, u2, zIm_upd hA0 (by omega), zIm_upd hA1 (by omega), hT, hN, hS0, hS1, hS2, hS3, e1, e2, rfl, e4, e5⟩
              · unfold p_X5_alter
                rw [h1, zbs, if_neg z1n0, h3, zbs, if_neg z1n0]
                show (p_X4_trait (nI i) (nI 3) L_traits).bind _ = _
                rw [a_trait (T := T) (by omega) (by decide), zbs]
                show (p_X4_setTrait (nI i) (nI 3) (nI v) L_traits).bind _ = _
                rw [a_set (by omega) (by decide), zbs]
              · unfold p_X6_alter p_X6_alters
                rw [if_neg (show ¬ (3 : Int32) = 0 by decide), if_neg (show ¬ (3 : Int32) = 1 by decide), if_neg (show ¬ (3 : Int32) = 2 by decide), if_pos rfl, h4, zbs, if_neg z1n0, zbs, h2, zbs, if_neg z1n0, if_neg z1n0, hb]
                rfl
            · refine ⟨(-1, L_traits), (-1, m_state), ?_, ?_, rfl, hR0⟩
              · unfold p_X5_alter; rw [h1, zbs, if_neg z1n0, h3, zbs, if_pos rfl]
              · unfold p_X6_alter p_X6_alters
                rw [if_neg (show ¬ (3 : Int32) = 0 by decide), if_neg (show ¬ (3 : Int32) = 1 by decide), if_neg (show ¬ (3 : Int32) = 2 by decide), if_pos rfl, h4, zbs, if_pos rfl, zbs, h2, zbs, if_neg z1n0, if_pos rfl, b_puts0]
                rfl
          · have hf : p_X5_fitsTrait a2 a3 = some 0 := by
              rcases arg_in a2 (lo := 0) (hi := 3) (by decide) (by decide) with ⟨j, -, hj, e, -, -⟩ | ⟨q1, -, -⟩
              · rcases (show j = 0 ∨ j = 1 ∨ j = 2 ∨ j = 3 by omega) with rfl | rfl | rfl | rfl
                · exact absurd e c0
                · exact absurd e c1
                · exact absurd e c2
                · exact absurd e c3
              · have q1' : p_X5_within a2 (0 : Int32) (3 : Int32) = some 0 := q1
                unfold p_X5_fitsTrait; rw [q1', zbs, if_pos rfl]
            refine ⟨(-1, L_traits), (-1, m_state), ?_, ?_, rfl, hR0⟩
            · unfold p_X5_alter; rw [h1, zbs, if_neg z1n0, hf, zbs, if_pos rfl]
            · unfold p_X6_alter p_X6_alters
              rw [if_neg c0, if_neg c1, if_neg c2, if_neg c3, zbs, h2, zbs, if_neg z1n0, if_pos rfl, b_puts0]
              rfl
  · have hg : ∃ e, (if a2 = 0 then (p_X6_in a3.toInt64 (0 : Int64) (3 : Int64)).bind (fun o11 => some o11) else if a2 = (1 : Int32) then (p_X6_in a3.toInt64 (1 : Int64) (20 : Int64)).bind (fun o9 => some o9) else if a2 = (2 : Int32) then (p_X6_isCell a3).bind (fun o7 => some o7) else if a2 = (3 : Int32) then (p_X6_in a3.toInt64 (0 : Int64) (60 : Int64)).bind (fun o4 => if o4 = 0 then some (0 : Int32) else some (1 : Int32)) else some (0 : Int32)) = some e := by
      rcases fit0 a3 with ⟨v, -, -, -, -, g0⟩ | ⟨-, g0⟩ <;> rcases fit1 a3 with ⟨v, -, -, -, -, g1⟩ | ⟨-, g1⟩ <;> rcases fit2 a3 with ⟨v, -, -, -, -, g2⟩ | ⟨-, g2⟩ <;> rcases fit3 a3 with ⟨v, -, -, -, -, g3⟩ | ⟨-, g3⟩ <;> rw [g0, g1, g2, g3] <;> (repeat' split) <;> exact ⟨_, rfl⟩
    obtain ⟨e, hg⟩ := hg
    refine ⟨(-1, L_traits), (-1, m_state), ?_, ?_, rfl, hR0⟩
    · unfold p_X5_alter; rw [h1, zbs, if_pos rfl]
    · unfold p_X6_alter p_X6_alters
      rw [hg, zbs, h2, zbs, if_pos rfl, b_puts0]
      rfl
set_option maxHeartbeats 4000000 in
theorem q_put {L_draws : Int32} {L_foot : Int32} {L_point : Int32} {L_stiff : Int32} {L_bears : Int32} {L_year : Int32} {L_traits : Nat → Int32} {A0_draws : Int32} {A0_foot : Int32} {A0_point : Int32} {A0_stiff : Int32} {A0_bears : Int32} {A0_year : Int32} {A0_traits : Nat → Int32} {A1_draws : Int32} {A1_foot : Int32} {A1_point : Int32} {A1_stiff : Int32} {A1_bears : Int32} {A1_year : Int32} {A1_traits : Nat → Int32} {x_kept : Nat → Int32} {P_length : Int32} {P_bytes : Nat → Int32} {N_size : Int32} {N_years : Nat → Int32} {N_cells : Nat → Int32} {S0_lane : Int32} {S0_size : Int32} {S0_cells : Nat → Int32} {S1_lane : Int32} {S1_size : Int32} {S1_cells : Nat → Int32} {S2_lane : Int32} {S2_size : Int32} {S2_cells : Nat → Int32} {S3_lane : Int32} {S3_size : Int32} {S3_cells : Nat → Int32} {x_textFault : Int32} {x_readFault : Int32} {m_state : Nat → Int32} {m_tape : Nat → Int32} {m_taped : Int32} {m_fault : Int32} {m_cuts : Nat → Int32} {m_letters : Nat → Int32} {m_silent : Int32} {m_seen : Nat → Int32} {m_seenMany : Int32} {m_isKept : Nat → Int32} {m_lanes : Nat → Int32} {m_lengths : Nat → Int32} {m_sheetCells : Nat → Int32} {m_torn : Int32} (a1 : Int32) (a2 : Int32) (a3 : Int32) (hR : zRel L_draws L_foot L_point L_stiff L_bears L_year L_traits A0_draws A0_foot A0_point A0_stiff A0_bears A0_year A0_traits A1_draws A1_foot A1_point A1_stiff A1_bears A1_year A1_traits x_kept P_length P_bytes N_size N_years N_cells S0_lane S0_size S0_cells S1_lane S1_size S1_cells S2_lane S2_size S2_cells S3_lane S3_size S3_cells x_textFault x_readFault m_state m_tape m_taped m_fault m_cuts m_letters m_silent m_seen m_seenMany m_isKept m_lanes m_lengths m_sheetCells m_torn) : ∃ (oX5 : Int32 × Int32 × (Nat → Int32)) (oX6 : Int32 × (Nat → Int32)), p_X5_put a1 a2 a3 L_draws L_traits = some oX5 ∧ p_X6_put a1 a2 a3 m_state = some oX6 ∧ oX5.1 = oX6.1 ∧ zRel oX5.2.1 L_foot L_point L_stiff L_bears L_year oX5.2.2 A0_draws A0_foot A0_point A0_stiff A0_bears A0_year A0_traits A1_draws A1_foot A1_point A1_stiff A1_bears A1_year A1_traits x_kept P_length P_bytes N_size N_years N_cells S0_lane S0_size S0_cells S1_lane S1_size S1_cells S2_lane S2_size S2_cells S3_lane S3_size S3_cells x_textFault x_readFault oX6.2 m_tape m_taped m_fault m_cuts m_letters m_silent m_seen m_seenMany m_isKept m_lanes m_lengths m_sheetCells m_torn := by
  have hR0 := hR
  obtain ⟨hL, hA0, hA1, hT, hN, hS0, hS1, hS2, hS3, e1, e2, e3, e4, e5⟩ := hR
  subst e3
  obtain ⟨T, pt, yr, ⟨hV, hp, hy, hw⟩, ⟨rfl, rfl, rfl, rfl, rfl, rfl, hA⟩, hM⟩ := hL
  have hd := hV.1
  have g20 : z_get m_state 156 (20 : Int32) = some (nI (t_d T)) := by rw [← hM.1]; exact z_get_n (i := 20) (by decide) (by decide)
  rcases fit0 a1 with ⟨k, k0, k1, rfl, h1, h2⟩ | ⟨h1, h2⟩
  · rcases fit1 a2 with ⟨p, p0, p1, rfl, h3, h4⟩ | ⟨h3, h4⟩
    · rcases arg_cell a3 with ⟨c, hc, rfl, h5, h6⟩ | ⟨h5, h6, -⟩
      · have hput : p_X6_isPut (nI k) (nI p) (nI c) = some 1 := by
          unfold p_X6_isPut; rw [h2, zbs, if_neg z1n0, h4, zbs, if_neg z1n0, h6, zbs, if_neg z1n0]
        by_cases q : t_d T < 5
        · have hM2 := zM_a (k := k) (p := p) (c := c) hM q
          have hb : p_X6_putsOn (0 : Int32) (nI k) (nI p) (nI c) m_state = some (zmr m_state 0 (t_d T) (nI k) (nI p) (nI c)) := b_putsOn (pg := 0) q (by decide) hM.1
          have ho : ∀ j, 26 ≤ j → zmr m_state 0 (t_d T) (nI k) (nI p) (nI c) j = m_state j := by
            intro j hj
            unfold zmr
            rw [pk_un (by omega), pk_un (by omega), pk_un (by omega), pk_un (by omega), pk_un (by omega)]
          refine ⟨(nI (t_d T + 1), nI (t_d T + 1), zar L_traits (t_d T) (nI k) (nI p) (nI c)), (nI (t_d T + 1), zmr m_state 0 (t_d T) (nI k) (nI p) (nI c)), ?_, ?_, rfl, ⟨zTa T k p c, pt, yr, ⟨zV_a hV q k1 p1 hc, hp, hy, ?_⟩, ⟨rfl, rfl, rfl, rfl, rfl, rfl, zA_a hA⟩, hM2⟩, zIm_keep hA0 (fun i hi => ho _ (by omega)), zIm_keep hA1 (fun i hi => ho _ (by omega)), hT, hN, hS0, hS1, hS2, hS3, e1, e2, rfl, e4, e5⟩
          · unfold p_X5_put
            rw [h1, zbs, if_neg z1n0, h3, zbs, if_neg z1n0, h5, zbs, if_neg z1n0, a_full hd, zbs, if_pos q, if_pos rfl, a_add q, zbs]
          · unfold p_X6_put
            rw [hput, zbs, if_neg z1n0, g20, zbs, if_neg (show ¬ nI (t_d T) = (5 : Int32) from nI_ne' (b := 5) (by omega) (by omega) (by decide)), hb, zbs, z_get_e 20 (show (20 : Int32) = nI 20 from rfl) (by decide) (by decide), zbs, show zmr m_state 0 (t_d T) (nI k) (nI p) (nI c) 20 = nI (t_d T + 1) from hM2.1]
          · intro j hj
            have hj' : j < t_d T + 1 := hj
            show 1 ≤ zup (t_pl T) (t_d T) p j ∧ zup (t_si T) (t_d T) 0 j ≤ 60
            by_cases e : j = t_d T
            · rw [e, zup_s, zup_s]; exact ⟨p0, by decide⟩
            · rw [zup_n e, zup_n e]; exact hw j (by omega)
        · refine ⟨(-3, nI (t_d T), L_traits), (-3, m_state), ?_, ?_, rfl, hR0⟩
          · unfold p_X5_put
            rw [h1, zbs, if_neg z1n0, h3, zbs, if_neg z1n0, h5, zbs, if_neg z1n0, a_full hd, zbs, if_neg q, if_neg z1n0]
          · unfold p_X6_put
            rw [hput, zbs, if_neg z1n0, g20, zbs, if_pos (show nI (t_d T) = (5 : Int32) by rw [show t_d T = 5 by omega]; rfl)]
      · refine ⟨(-1, nI (t_d T), L_traits), (-1, m_state), ?_, ?_, rfl, hR0⟩
        · unfold p_X5_put
          rw [h1, zbs, if_neg z1n0, h3, zbs, if_neg z1n0, h5, zbs, if_pos rfl]
        · unfold p_X6_put p_X6_isPut
          rw [h2, zbs, if_neg z1n0, h4, zbs, if_neg z1n0, h6, zbs, if_pos rfl, zbs, if_pos rfl]
    · refine ⟨(-1, nI (t_d T), L_traits), (-1, m_state), ?_, ?_, rfl, hR0⟩
      · unfold p_X5_put
        rw [h1, zbs, if_neg z1n0, h3, zbs, if_pos rfl]
      · unfold p_X6_put p_X6_isPut
        rw [h2, zbs, if_neg z1n0, h4, zbs, if_pos rfl, zbs, if_pos rfl]
  · refine ⟨(-1, nI (t_d T), L_traits), (-1, m_state), ?_, ?_, rfl, hR0⟩
    · unfold p_X5_put
      rw [h1, zbs, if_pos rfl]
    · unfold p_X6_put p_X6_isPut
      rw [h2, zbs, if_pos rfl, zbs, if_pos rfl]
