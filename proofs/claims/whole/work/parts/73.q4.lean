set_option maxHeartbeats 4000000 in
theorem q_turn {L_draws : Int32} {L_foot : Int32} {L_point : Int32} {L_stiff : Int32} {L_bears : Int32} {L_year : Int32} {L_traits : Nat → Int32} {A0_draws : Int32} {A0_foot : Int32} {A0_point : Int32} {A0_stiff : Int32} {A0_bears : Int32} {A0_year : Int32} {A0_traits : Nat → Int32} {A1_draws : Int32} {A1_foot : Int32} {A1_point : Int32} {A1_stiff : Int32} {A1_bears : Int32} {A1_year : Int32} {A1_traits : Nat → Int32} {x_kept : Nat → Int32} {P_length : Int32} {P_bytes : Nat → Int32} {N_size : Int32} {N_years : Nat → Int32} {N_cells : Nat → Int32} {S0_lane : Int32} {S0_size : Int32} {S0_cells : Nat → Int32} {S1_lane : Int32} {S1_size : Int32} {S1_cells : Nat → Int32} {S2_lane : Int32} {S2_size : Int32} {S2_cells : Nat → Int32} {S3_lane : Int32} {S3_size : Int32} {S3_cells : Nat → Int32} {x_textFault : Int32} {x_readFault : Int32} {m_state : Nat → Int32} {m_tape : Nat → Int32} {m_taped : Int32} {m_fault : Int32} {m_cuts : Nat → Int32} {m_letters : Nat → Int32} {m_silent : Int32} {m_seen : Nat → Int32} {m_seenMany : Int32} {m_isKept : Nat → Int32} {m_lanes : Nat → Int32} {m_lengths : Nat → Int32} {m_sheetCells : Nat → Int32} {m_torn : Int32} (T_traits : Nat → Int32) (hR : zRel L_draws L_foot L_point L_stiff L_bears L_year L_traits A0_draws A0_foot A0_point A0_stiff A0_bears A0_year A0_traits A1_draws A1_foot A1_point A1_stiff A1_bears A1_year A1_traits x_kept P_length P_bytes N_size N_years N_cells S0_lane S0_size S0_cells S1_lane S1_size S1_cells S2_lane S2_size S2_cells S3_lane S3_size S3_cells x_textFault x_readFault m_state m_tape m_taped m_fault m_cuts m_letters m_silent m_seen m_seenMany m_isKept m_lanes m_lengths m_sheetCells m_torn) : ∃ (oX5 : Int32 × Int32 × Int32 × Int32 × Int32 × Int32 × Int32 × (Nat → Int32)) (oX6 : Int32 × (Nat → Int32)), p_X5_turn L_draws L_foot L_point L_stiff L_bears L_year L_traits T_traits = some oX5 ∧ p_X6_turn m_silent m_state = some oX6 ∧ oX5.1 = oX6.1 ∧ zRel L_draws L_foot L_point L_stiff L_bears L_year L_traits A0_draws A0_foot A0_point A0_stiff A0_bears A0_year A0_traits A1_draws A1_foot A1_point A1_stiff A1_bears A1_year A1_traits x_kept P_length P_bytes N_size N_years N_cells S0_lane S0_size S0_cells S1_lane S1_size S1_cells S2_lane S2_size S2_cells S3_lane S3_size S3_cells x_textFault x_readFault oX6.2 m_tape m_taped m_fault m_cuts m_letters m_silent m_seen m_seenMany m_isKept m_lanes m_lengths m_sheetCells m_torn := by
  obtain ⟨hL, hA0, hA1, hT, hN, hS0, hS1, hS2, hS3, e1, e2, e3, e4, e5⟩ := hR
  subst e3
  have hL0 := hL
  obtain ⟨T, pt, yr, ⟨hV, hp, hy, hw⟩, ⟨rfl, rfl, rfl, rfl, rfl, rfl, hA⟩, hM⟩ := hL
  obtain ⟨ja, ha⟩ := a_turn hV hA hp hy T_traits
  obtain ⟨jb, hb, hlo⟩ := b_turn hV hM hp hy
  exact ⟨_, _, ha, hb, rfl, zLo_Pg hlo hL0, zLo_I1 hlo hA0, zLo_I2 hlo hA1, hT, hN, hS0, hS1, hS2, hS3, e1, e2, rfl, e4, e5⟩
set_option maxHeartbeats 4000000 in
theorem q_share {L_draws : Int32} {L_foot : Int32} {L_point : Int32} {L_stiff : Int32} {L_bears : Int32} {L_year : Int32} {L_traits : Nat → Int32} {A0_draws : Int32} {A0_foot : Int32} {A0_point : Int32} {A0_stiff : Int32} {A0_bears : Int32} {A0_year : Int32} {A0_traits : Nat → Int32} {A1_draws : Int32} {A1_foot : Int32} {A1_point : Int32} {A1_stiff : Int32} {A1_bears : Int32} {A1_year : Int32} {A1_traits : Nat → Int32} {x_kept : Nat → Int32} {P_length : Int32} {P_bytes : Nat → Int32} {N_size : Int32} {N_years : Nat → Int32} {N_cells : Nat → Int32} {S0_lane : Int32} {S0_size : Int32} {S0_cells : Nat → Int32} {S1_lane : Int32} {S1_size : Int32} {S1_cells : Nat → Int32} {S2_lane : Int32} {S2_size : Int32} {S2_cells : Nat → Int32} {S3_lane : Int32} {S3_size : Int32} {S3_cells : Nat → Int32} {x_textFault : Int32} {x_readFault : Int32} {m_state : Nat → Int32} {m_tape : Nat → Int32} {m_taped : Int32} {m_fault : Int32} {m_cuts : Nat → Int32} {m_letters : Nat → Int32} {m_silent : Int32} {m_seen : Nat → Int32} {m_seenMany : Int32} {m_isKept : Nat → Int32} {m_lanes : Nat → Int32} {m_lengths : Nat → Int32} {m_sheetCells : Nat → Int32} {m_torn : Int32} (T_draws : Int32) (T_foot : Int32) (T_point : Int32) (T_stiff : Int32) (T_bears : Int32) (T_year : Int32) (T_traits : Nat → Int32) (a1 : Int32) (a2 : Int32) (a3 : Int32) (hR : zRel L_draws L_foot L_point L_stiff L_bears L_year L_traits A0_draws A0_foot A0_point A0_stiff A0_bears A0_year A0_traits A1_draws A1_foot A1_point A1_stiff A1_bears A1_year A1_traits x_kept P_length P_bytes N_size N_years N_cells S0_lane S0_size S0_cells S1_lane S1_size S1_cells S2_lane S2_size S2_cells S3_lane S3_size S3_cells x_textFault x_readFault m_state m_tape m_taped m_fault m_cuts m_letters m_silent m_seen m_seenMany m_isKept m_lanes m_lengths m_sheetCells m_torn) : ∃ (oX5 : Int64 × Int32 × Int32 × Int32 × Int32 × Int32 × Int32 × (Nat → Int32)) (oX6 : Int64 × (Nat → Int32)), p_X5_share a1 a2 a3 L_draws L_foot L_point L_stiff L_bears L_year L_traits T_draws T_foot T_point T_stiff T_bears T_year T_traits = some oX5 ∧ p_X6_share a1 a2 a3 m_silent m_state = some oX6 ∧ oX5.1 = oX6.1 ∧ zRel L_draws L_foot L_point L_stiff L_bears L_year L_traits A0_draws A0_foot A0_point A0_stiff A0_bears A0_year A0_traits A1_draws A1_foot A1_point A1_stiff A1_bears A1_year A1_traits x_kept P_length P_bytes N_size N_years N_cells S0_lane S0_size S0_cells S1_lane S1_size S1_cells S2_lane S2_size S2_cells S3_lane S3_size S3_cells x_textFault x_readFault oX6.2 m_tape m_taped m_fault m_cuts m_letters m_silent m_seen m_seenMany m_isKept m_lanes m_lengths m_sheetCells m_torn := by
  have hR0 := hR
  obtain ⟨hL, hA0, hA1, hT, hN, hS0, hS1, hS2, hS3, e1, e2, e3, e4, e5⟩ := hR
  subst e3
  have hL0 := hL
  obtain ⟨T, pt, yr, ⟨hV, hp, hy, hw⟩, ⟨rfl, rfl, rfl, rfl, rfl, rfl, hA⟩, hM⟩ := hL
  have hd := hV.1
  rcases arg_draw a1 hV.1 hM.1 with ⟨i, hi, rfl, h1, h2⟩ | ⟨h1, h2, -⟩
  · rcases arg_in a2 (lo := 1) (hi := 60) (by decide) (by decide) with ⟨n, n0, n1, rfl, h3, h4⟩ | ⟨h3, h4, -⟩
    · have h3' : p_X5_within (nI n) (1 : Int32) (60 : Int32) = some 1 := h3
      have h4' : p_X6_in (nI n).toInt64 (1 : Int64) (60 : Int64) = some 1 := h4
      rcases arg_half a3 with ⟨w, hw1, rfl, h5, h6⟩ | ⟨h5, h6⟩
      · have hhd := zhd_le T pt yr i n
        obtain ⟨r, p5, p6⟩ := part_low (a := zhd T pt yr i n) (b := n) (by omega) (by omega) (by omega) (nI w)
        have hlo : zLo m_state (zyr (zcp m_state 0 104) 104 (zps T pt yr n) (yr + n)) := zLo_y (zLo_c (zLo_r _) (by decide)) (by decide)
        refine ⟨(r, nI (t_d T), nI (t_ft T), nI (zps T pt yr n), nI (t_st T), nI (t_be T), nI (yr + n), zct L_traits T_traits), (r, zyr (zcp m_state 0 104) 104 (zps T pt yr n) (yr + n)), ?_, ?_, rfl, zLo_Pg hlo hL0, zLo_I1 hlo hA0, zLo_I2 hlo hA1, hT, hN, hS0, hS1, hS2, hS3, e1, e2, rfl, e4, e5⟩
        · unfold p_X5_share p_X4_copyFrom
          rw [h1, zbs, if_neg z1n0, h3', zbs, if_neg z1n0, h5, zbs, if_neg z1n0, zbs]
          show (p_X4_yearsHeldBy (nI i) (nI n) (nI (t_d T)) (nI (t_ft T)) (nI pt) (nI (t_st T)) (nI (t_be T)) (nI yr) (zct L_traits T_traits)).bind _ = _
          rw [a_held hV (zA_ct hd hA) hp (by omega) (by omega) (by omega), zbs]
          try dsimp only
          rw [nI_l (by omega), nI_l (by omega), p5]
          rfl
        · unfold p_X6_share
          rw [h2, zbs, if_neg z1n0, h4', zbs, if_neg z1n0, h6, zbs, if_neg z1n0, b_cp104, zbs, b_share hV (zM_cp hd hM) hp hy (by omega) n1, zbs]
          try dsimp only
          rw [nI_l (by omega), nI_l (by omega), p6]
          rfl
      · refine ⟨(-1, T_draws, T_foot, T_point, T_stiff, T_bears, T_year, T_traits), (-1, m_state), ?_, ?_, rfl, hR0⟩
        · unfold p_X5_share; rw [h1, zbs, if_neg z1n0, h3', zbs, if_neg z1n0, h5, zbs, if_pos rfl]
        · unfold p_X6_share; rw [h2, zbs, if_neg z1n0, h4', zbs, if_neg z1n0, h6, zbs, if_pos rfl]
    · have h3' : p_X5_within a2 (1 : Int32) (60 : Int32) = some 0 := h3
      have h4' : p_X6_in a2.toInt64 (1 : Int64) (60 : Int64) = some 0 := h4
      refine ⟨(-1, T_draws, T_foot, T_point, T_stiff, T_bears, T_year, T_traits), (-1, m_state), ?_, ?_, rfl, hR0⟩
      · unfold p_X5_share; rw [h1, zbs, if_neg z1n0, h3', zbs, if_pos rfl]
      · unfold p_X6_share; rw [h2, zbs, if_neg z1n0, h4', zbs, if_pos rfl]
  · refine ⟨(-1, T_draws, T_foot, T_point, T_stiff, T_bears, T_year, T_traits), (-1, m_state), ?_, ?_, rfl, hR0⟩
    · unfold p_X5_share; rw [h1, zbs, if_pos rfl]
    · unfold p_X6_share; rw [h2, zbs, if_pos rfl]
set_option maxHeartbeats 4000000 in
theorem q_hush {L_draws : Int32} {L_foot : Int32} {L_point : Int32} {L_stiff : Int32} {L_bears : Int32} {L_year : Int32} {L_traits : Nat → Int32} {A0_draws : Int32} {A0_foot : Int32} {A0_point : Int32} {A0_stiff : Int32} {A0_bears : Int32} {A0_year : Int32} {A0_traits : Nat → Int32} {A1_draws : Int32} {A1_foot : Int32} {A1_point : Int32} {A1_stiff : Int32} {A1_bears : Int32} {A1_year : Int32} {A1_traits : Nat → Int32} {x_kept : Nat → Int32} {P_length : Int32} {P_bytes : Nat → Int32} {N_size : Int32} {N_years : Nat → Int32} {N_cells : Nat → Int32} {S0_lane : Int32} {S0_size : Int32} {S0_cells : Nat → Int32} {S1_lane : Int32} {S1_size : Int32} {S1_cells : Nat → Int32} {S2_lane : Int32} {S2_size : Int32} {S2_cells : Nat → Int32} {S3_lane : Int32} {S3_size : Int32} {S3_cells : Nat → Int32} {x_textFault : Int32} {x_readFault : Int32} {m_state : Nat → Int32} {m_tape : Nat → Int32} {m_taped : Int32} {m_fault : Int32} {m_cuts : Nat → Int32} {m_letters : Nat → Int32} {m_silent : Int32} {m_seen : Nat → Int32} {m_seenMany : Int32} {m_isKept : Nat → Int32} {m_lanes : Nat → Int32} {m_lengths : Nat → Int32} {m_sheetCells : Nat → Int32} {m_torn : Int32} (T_draws : Int32) (T_foot : Int32) (T_point : Int32) (T_stiff : Int32) (T_bears : Int32) (T_year : Int32) (T_traits : Nat → Int32) (m_greatest : Int32) (m_moves : Int32) (m_holders : Int32) (a1 : Int32) (hR : zRel L_draws L_foot L_point L_stiff L_bears L_year L_traits A0_draws A0_foot A0_point A0_stiff A0_bears A0_year A0_traits A1_draws A1_foot A1_point A1_stiff A1_bears A1_year A1_traits x_kept P_length P_bytes N_size N_years N_cells S0_lane S0_size S0_cells S1_lane S1_size S1_cells S2_lane S2_size S2_cells S3_lane S3_size S3_cells x_textFault x_readFault m_state m_tape m_taped m_fault m_cuts m_letters m_silent m_seen m_seenMany m_isKept m_lanes m_lengths m_sheetCells m_torn) : ∃ (oX5 : Int32 × Int32 × Int32 × Int32 × Int32 × Int32 × Int32 × (Nat → Int32)) (oX6 : Int32 × Int32 × Int32 × Int32 × Int32 × (Nat → Int32)), p_X5_hush a1 L_draws L_foot L_point L_stiff L_bears L_year L_traits T_draws T_foot T_point T_stiff T_bears T_year T_traits = some oX5 ∧ p_X6_hush a1 m_silent m_greatest m_moves m_holders m_state = some oX6 ∧ oX5.1 = oX6.1 ∧ zRel L_draws L_foot L_point L_stiff L_bears L_year L_traits A0_draws A0_foot A0_point A0_stiff A0_bears A0_year A0_traits A1_draws A1_foot A1_point A1_stiff A1_bears A1_year A1_traits x_kept P_length P_bytes N_size N_years N_cells S0_lane S0_size S0_cells S1_lane S1_size S1_cells S2_lane S2_size S2_cells S3_lane S3_size S3_cells x_textFault x_readFault oX6.2.2.2.2.2 m_tape m_taped m_fault m_cuts m_letters oX6.2.1 m_seen m_seenMany m_isKept m_lanes m_lengths m_sheetCells m_torn := by
  have hR0 := hR
  obtain ⟨hL, hA0, hA1, hT, hN, hS0, hS1, hS2, hS3, e1, e2, e3, e4, e5⟩ := hR
  subst e3
  have hL0 := hL
  obtain ⟨T, pt, yr, ⟨hV, hp, hy, hw⟩, ⟨rfl, rfl, rfl, rfl, rfl, rfl, hA⟩, hM⟩ := hL
  have hd := hV.1
  rcases arg_half a1 with ⟨w, hw1, rfl, h1, h2⟩ | ⟨h1, h2⟩
  · have hgl := zgl_le hV (yr := yr) hp 60
    have ha0 := a_ahead hV hA hp hy T_traits
    have hb0 : p_X6_yearsGo (0 : Int32) (60 : Int32) (-4) m_state = _ := b_go (pg := 0) (n := 60) hV (Or.inl rfl) hM hp (by omega) (by decide)
    have hlo : zLo m_state (zyr (zcp m_state 0 104) 104 (zps T pt yr 60) (yr + 60)) := zLo_y (zLo_c (zLo_r _) (by decide)) (by decide)
    generalize zgl T pt yr 60 = m at ha0 hb0 hgl
    generalize nI (zmv T pt yr 60) = mv at hb0
    generalize zhs T pt yr 60 = hs at hb0
    generalize zyr (zcp m_state 0 104) 104 (zps T pt yr 60) (yr + 60) = g at hb0 hlo
    obtain ⟨ra, ha, a1, a2⟩ := a_hush hV hA hp hy hgl (nI (t_d T)) (nI (t_ft T)) (nI (zps T pt yr 60)) (nI (t_st T)) (nI (t_be T)) (nI (yr + 60)) (zct L_traits T_traits)
    obtain ⟨rb, hb, b1, b2, b3, b4⟩ := b_hush hV hM hp hy hgl (nI m) mv hs hlo
    refine ⟨(if ra.1 = (-4 : Int32) then -4 else if nI w = 0 then ra.1 else ra.2.1, ra.2.2), (if rb.2.1 = (-4 : Int32) then rb.2.1 else if nI w = 0 then rb.2.1 else rb.1, rb.2.2), ?_, ?_, ?_, ?_⟩
    · unfold p_X5_hush
      rw [h1, zbs, if_neg z1n0, ha0, zbs]
      try dsimp only
      rw [ha, zbs]
      unfold p_X5_chosen
      (repeat' split) <;> rfl
    · unfold p_X6_hush
      rw [h2, zbs, if_neg z1n0, hb0, zbs]
      try dsimp only
      rw [hb, zbs]
      (repeat' split) <;> rfl
    · try dsimp only
      rw [a1, a2, b1, b2]
      split
      · rename_i q; exact q.symm
      · rfl
    · refine ⟨zLo_Pg b4 hL0, zLo_I1 b4 hA0, zLo_I2 b4 hA1, hT, hN, hS0, hS1, hS2, hS3, e1, e2, b3, e4, e5⟩
  · refine ⟨(-1, T_draws, T_foot, T_point, T_stiff, T_bears, T_year, T_traits), (-1, -4, m_greatest, m_moves, m_holders, m_state), ?_, ?_, rfl, hR0⟩
    · unfold p_X5_hush; rw [h1, zbs, if_pos rfl]
    · unfold p_X6_hush; rw [h2, zbs, if_pos rfl]
set_option maxHeartbeats 4000000 in
theorem q_kind {L_draws : Int32} {L_foot : Int32} {L_point : Int32} {L_stiff : Int32} {L_bears : Int32} {L_year : Int32} {L_traits : Nat → Int32} {A0_draws : Int32} {A0_foot : Int32} {A0_point : Int32} {A0_stiff : Int32} {A0_bears : Int32} {A0_year : Int32} {A0_traits : Nat → Int32} {A1_draws : Int32} {A1_foot : Int32} {A1_point : Int32} {A1_stiff : Int32} {A1_bears : Int32} {A1_year : Int32} {A1_traits : Nat → Int32} {x_kept : Nat → Int32} {P_length : Int32} {P_bytes : Nat → Int32} {N_size : Int32} {N_years : Nat → Int32} {N_cells : Nat → Int32} {S0_lane : Int32} {S0_size : Int32} {S0_cells : Nat → Int32} {S1_lane : Int32} {S1_size : Int32} {S1_cells : Nat → Int32} {S2_lane : Int32} {S2_size : Int32} {S2_cells : Nat → Int32} {S3_lane : Int32} {S3_size : Int32} {S3_cells : Nat → Int32} {x_textFault : Int32} {x_readFault : Int32} {m_state : Nat → Int32} {m_tape : Nat → Int32} {m_taped : Int32} {m_fault : Int32} {m_cuts : Nat → Int32} {m_letters : Nat → Int32} {m_silent : Int32} {m_seen : Nat → Int32} {m_seenMany : Int32} {m_isKept : Nat → Int32} {m_lanes : Nat → Int32} {m_lengths : Nat → Int32} {m_sheetCells : Nat → Int32} {m_torn : Int32} (T_draws : Int32) (T_foot : Int32) (T_point : Int32) (T_stiff : Int32) (T_bears : Int32) (T_year : Int32) (T_traits : Nat → Int32) (m_greatest : Int32) (m_moves : Int32) (m_holders : Int32) (a1 : Int32) (a2 : Int32) (a3 : Int32) (hR : zRel L_draws L_foot L_point L_stiff L_bears L_year L_traits A0_draws A0_foot A0_point A0_stiff A0_bears A0_year A0_traits A1_draws A1_foot A1_point A1_stiff A1_bears A1_year A1_traits x_kept P_length P_bytes N_size N_years N_cells S0_lane S0_size S0_cells S1_lane S1_size S1_cells S2_lane S2_size S2_cells S3_lane S3_size S3_cells x_textFault x_readFault m_state m_tape m_taped m_fault m_cuts m_letters m_silent m_seen m_seenMany m_isKept m_lanes m_lengths m_sheetCells m_torn) : ∃ (oX5 : Int32 × Int32 × Int32 × Int32 × Int32 × Int32 × Int32 × (Nat → Int32)) (oX6 : Int32 × Int32 × Int32 × Int32 × (Nat → Int32)), p_X5_kind a1 a2 a3 L_draws L_foot L_point L_stiff L_bears L_year L_traits T_draws T_foot T_point T_stiff T_bears T_year T_traits = some oX5 ∧ p_X6_kind a1 a2 a3 m_silent m_greatest m_moves m_holders m_state = some oX6 ∧ oX5.1 = oX6.1 ∧ zRel L_draws L_foot L_point L_stiff L_bears L_year L_traits A0_draws A0_foot A0_point A0_stiff A0_bears A0_year A0_traits A1_draws A1_foot A1_point A1_stiff A1_bears A1_year A1_traits x_kept P_length P_bytes N_size N_years N_cells S0_lane S0_size S0_cells S1_lane S1_size S1_cells S2_lane S2_size S2_cells S3_lane S3_size S3_cells x_textFault x_readFault oX6.2.2.2.2 m_tape m_taped m_fault m_cuts m_letters m_silent m_seen m_seenMany m_isKept m_lanes m_lengths m_sheetCells m_torn := by
  have hR0 := hR
  obtain ⟨hL, hA0, hA1, hT, hN, hS0, hS1, hS2, hS3, e1, e2, e3, e4, e5⟩ := hR
  subst e3
  have hL0 := hL
  obtain ⟨T, pt, yr, ⟨hV, hp, hy, hw⟩, ⟨rfl, rfl, rfl, rfl, rfl, rfl, hA⟩, hM⟩ := hL
  have hd := hV.1
  rcases arg_draw a1 hV.1 hM.1 with ⟨i, hi, rfl, h1, h2⟩ | ⟨h1, h2, -⟩
  · rcases arg_in a2 (lo := 0) (hi := 60) (by decide) (by decide) with ⟨n, n0, n1, rfl, h3, h4⟩ | ⟨h3, h4, -⟩
    · have h3' : p_X5_within (nI n) (0 : Int32) (60 : Int32) = some 1 := h3
      have h4' : p_X6_in (nI n).toInt64 (0 : Int64) (60 : Int64) = some 1 := h4
      rcases arg_half a3 with ⟨w, hw1, rfl, h5, h6⟩ | ⟨h5, h6⟩
      · obtain ⟨ra, ha, x1, x2⟩ := a_kind hV hA hp hy hi n1 T_draws T_foot T_point T_stiff T_bears T_year T_traits
        obtain ⟨rb, hb, y1, y2, y3⟩ := b_kind hV hM hp hy hi n1 m_greatest m_moves m_holders
        have h0 : zkin T pt yr i n 0 < 100 := by
          have := zfar_le (hV.2.2.2.2 i hi).2.2.1 (zps_lt (yr := yr) (zV_t0 (i := i) (v := 0) hV (by decide)) hp n)
          unfold zkin; omega
        have he := zbf_eq (h := zkin T pt yr i n) (lab := nI) (a := (-4 : Int32)) (b := (0 : Int32)) h0 3
        obtain ⟨k, hk, ek⟩ := zbf_lab (h := zkin T pt yr i n) (lab := nI) (a := (-4 : Int32)) h0 3
        have nk : ¬ ra.1 = (-4 : Int32) := by rw [x1, ek]; exact nI_m4 (by omega)
        refine ⟨(if nI w = 0 then ra.1 else ra.2.1, ra.2.2), (if nI w = 0 then rb.2.1 else rb.1, rb.2.2), ?_, ?_, ?_, ?_⟩
        · unfold p_X5_kind
          rw [h1, zbs, if_neg z1n0, h3', zbs, if_neg z1n0, h5, zbs, if_neg z1n0, zgL_0, zbs, ha, zbs]
          unfold p_X5_chosen
          rw [if_neg nk]
          (repeat' split) <;> rfl
        · unfold p_X6_kind
          rw [h2, zbs, if_neg z1n0, h4', zbs, if_neg z1n0, h6, zbs, if_neg z1n0, hb, zbs]
          (repeat' split) <;> rfl
        · try dsimp only
          rw [x1, x2, y1, y2, he]
        · exact ⟨zLo_Pg y3 hL0, zLo_I1 y3 hA0, zLo_I2 y3 hA1, hT, hN, hS0, hS1, hS2, hS3, e1, e2, rfl, e4, e5⟩
      · refine ⟨(-1, T_draws, T_foot, T_point, T_stiff, T_bears, T_year, T_traits), (-1, m_greatest, m_moves, m_holders, m_state), ?_, ?_, rfl, hR0⟩
        · unfold p_X5_kind; rw [h1, zbs, if_neg z1n0, h3', zbs, if_neg z1n0, h5, zbs, if_pos rfl]
        · unfold p_X6_kind; rw [h2, zbs, if_neg z1n0, h4', zbs, if_neg z1n0, h6, zbs, if_pos rfl]
    · have h3' : p_X5_within a2 (0 : Int32) (60 : Int32) = some 0 := h3
      have h4' : p_X6_in a2.toInt64 (0 : Int64) (60 : Int64) = some 0 := h4
      refine ⟨(-1, T_draws, T_foot, T_point, T_stiff, T_bears, T_year, T_traits), (-1, m_greatest, m_moves, m_holders, m_state), ?_, ?_, rfl, hR0⟩
      · unfold p_X5_kind; rw [h1, zbs, if_neg z1n0, h3', zbs, if_pos rfl]
      · unfold p_X6_kind; rw [h2, zbs, if_neg z1n0, h4', zbs, if_pos rfl]
  · refine ⟨(-1, T_draws, T_foot, T_point, T_stiff, T_bears, T_year, T_traits), (-1, m_greatest, m_moves, m_holders, m_state), ?_, ?_, rfl, hR0⟩
    · unfold p_X5_kind; rw [h1, zbs, if_pos rfl]
    · unfold p_X6_kind; rw [h2, zbs, if_pos rfl]
set_option maxHeartbeats 4000000 in
theorem q_swap {L_draws : Int32} {L_foot : Int32} {L_point : Int32} {L_stiff : Int32} {L_bears : Int32} {L_year : Int32} {L_traits : Nat → Int32} {A0_draws : Int32} {A0_foot : Int32} {A0_point : Int32} {A0_stiff : Int32} {A0_bears : Int32} {A0_year : Int32} {A0_traits : Nat → Int32} {A1_draws : Int32} {A1_foot : Int32} {A1_point : Int32} {A1_stiff : Int32} {A1_bears : Int32} {A1_year : Int32} {A1_traits : Nat → Int32} {x_kept : Nat → Int32} {P_length : Int32} {P_bytes : Nat → Int32} {N_size : Int32} {N_years : Nat → Int32} {N_cells : Nat → Int32} {S0_lane : Int32} {S0_size : Int32} {S0_cells : Nat → Int32} {S1_lane : Int32} {S1_size : Int32} {S1_cells : Nat → Int32} {S2_lane : Int32} {S2_size : Int32} {S2_cells : Nat → Int32} {S3_lane : Int32} {S3_size : Int32} {S3_cells : Nat → Int32} {x_textFault : Int32} {x_readFault : Int32} {m_state : Nat → Int32} {m_tape : Nat → Int32} {m_taped : Int32} {m_fault : Int32} {m_cuts : Nat → Int32} {m_letters : Nat → Int32} {m_silent : Int32} {m_seen : Nat → Int32} {m_seenMany : Int32} {m_isKept : Nat → Int32} {m_lanes : Nat → Int32} {m_lengths : Nat → Int32} {m_sheetCells : Nat → Int32} {m_torn : Int32} (T_draws : Int32) (T_foot : Int32) (T_point : Int32) (T_stiff : Int32) (T_bears : Int32) (T_year : Int32) (T_traits : Nat → Int32) (m_greatest : Int32) (m_moves : Int32) (m_holders : Int32) (a1 : Int32) (hR : zRel L_draws L_foot L_point L_stiff L_bears L_year L_traits A0_draws A0_foot A0_point A0_stiff A0_bears A0_year A0_traits A1_draws A1_foot A1_point A1_stiff A1_bears A1_year A1_traits x_kept P_length P_bytes N_size N_years N_cells S0_lane S0_size S0_cells S1_lane S1_size S1_cells S2_lane S2_size S2_cells S3_lane S3_size S3_cells x_textFault x_readFault m_state m_tape m_taped m_fault m_cuts m_letters m_silent m_seen m_seenMany m_isKept m_lanes m_lengths m_sheetCells m_torn) : ∃ (oX5 : Int32 × Int32 × Int32 × Int32 × Int32 × Int32 × Int32 × (Nat → Int32)) (oX6 : Int32 × Int32 × Int32 × Int32 × (Nat → Int32)), p_X5_swap a1 L_draws L_foot L_point L_stiff L_bears L_year L_traits T_draws T_foot T_point T_stiff T_bears T_year T_traits = some oX5 ∧ p_X6_swap a1 m_silent m_greatest m_moves m_holders m_state = some oX6 ∧ oX5.1 = oX6.1 ∧ zRel L_draws L_foot L_point L_stiff L_bears L_year L_traits A0_draws A0_foot A0_point A0_stiff A0_bears A0_year A0_traits A1_draws A1_foot A1_point A1_stiff A1_bears A1_year A1_traits x_kept P_length P_bytes N_size N_years N_cells S0_lane S0_size S0_cells S1_lane S1_size S1_cells S2_lane S2_size S2_cells S3_lane S3_size S3_cells x_textFault x_readFault oX6.2.2.2.2 m_tape m_taped m_fault m_cuts m_letters m_silent m_seen m_seenMany m_isKept m_lanes m_lengths m_sheetCells m_torn := by
  have hR0 := hR
  obtain ⟨hL, hA0, hA1, hT, hN, hS0, hS1, hS2, hS3, e1, e2, e3, e4, e5⟩ := hR
  subst e3
  have hL0 := hL
  obtain ⟨T, pt, yr, ⟨hV, hp, hy, hw⟩, ⟨rfl, rfl, rfl, rfl, rfl, rfl, hA⟩, hM⟩ := hL
  have hd := hV.1
  rcases arg_half a1 with ⟨w, hw1, rfl, h1, h2⟩ | ⟨h1, h2⟩
  · have hgl := zgl_le hV (yr := yr) hp 60
    have ha0 := a_ahead hV hA hp hy T_traits
    have hb0 : p_X6_yearsGo (0 : Int32) (60 : Int32) (-4) m_state = _ := b_go (pg := 0) (n := 60) hV (Or.inl rfl) hM hp (by omega) (by decide)
    have hlo : zLo m_state (zyr (zcp m_state 0 104) 104 (zps T pt yr 60) (yr + 60)) := zLo_y (zLo_c (zLo_r _) (by decide)) (by decide)
    generalize zgl T pt yr 60 = m at ha0 hb0 hgl
    generalize nI (zmv T pt yr 60) = mv at hb0
    generalize zhs T pt yr 60 = hs at hb0
    generalize zyr (zcp m_state 0 104) 104 (zps T pt yr 60) (yr + 60) = g at hb0 hlo
    obtain ⟨ra, ha, a1, a2⟩ := a_swap hV hA hp hy hgl (nI (t_d T)) (nI (t_ft T)) (nI (zps T pt yr 60)) (nI (t_st T)) (nI (t_be T)) (nI (yr + 60)) (zct L_traits T_traits)
    obtain ⟨rb, hb, b1, b2, b4⟩ := b_swap hV hM hp hy hgl (nI m) mv hs hlo
    refine ⟨(if ra.1 = (-4 : Int32) then -4 else if nI w = 0 then ra.1 else ra.2.1, ra.2.2), (if rb.2.1 = (-4 : Int32) then rb.2.1 else if nI w = 0 then rb.2.1 else rb.1, rb.2.2), ?_, ?_, ?_, ?_⟩
    · unfold p_X5_swap
      rw [h1, zbs, if_neg z1n0, ha0, zbs]
      try dsimp only
      rw [ha, zbs]
      unfold p_X5_chosen
      (repeat' split) <;> rfl
    · unfold p_X6_swap
      rw [h2, zbs, if_neg z1n0, hb0, zbs]
      try dsimp only
      rw [hb, zbs]
      (repeat' split) <;> rfl
    · try dsimp only
      rw [a1, a2, b1, b2]
      split
      · rename_i q; exact q.symm
      · rfl
    · refine ⟨zLo_Pg b4 hL0, zLo_I1 b4 hA0, zLo_I2 b4 hA1, hT, hN, hS0, hS1, hS2, hS3, e1, e2, rfl, e4, e5⟩
  · refine ⟨(-1, T_draws, T_foot, T_point, T_stiff, T_bears, T_year, T_traits), (-1, m_greatest, m_moves, m_holders, m_state), ?_, ?_, rfl, hR0⟩
    · unfold p_X5_swap; rw [h1, zbs, if_pos rfl]
    · unfold p_X6_swap; rw [h2, zbs, if_pos rfl]
set_option maxHeartbeats 4000000 in
theorem q_site {L_draws : Int32} {L_foot : Int32} {L_point : Int32} {L_stiff : Int32} {L_bears : Int32} {L_year : Int32} {L_traits : Nat → Int32} {A0_draws : Int32} {A0_foot : Int32} {A0_point : Int32} {A0_stiff : Int32} {A0_bears : Int32} {A0_year : Int32} {A0_traits : Nat → Int32} {A1_draws : Int32} {A1_foot : Int32} {A1_point : Int32} {A1_stiff : Int32} {A1_bears : Int32} {A1_year : Int32} {A1_traits : Nat → Int32} {x_kept : Nat → Int32} {P_length : Int32} {P_bytes : Nat → Int32} {N_size : Int32} {N_years : Nat → Int32} {N_cells : Nat → Int32} {S0_lane : Int32} {S0_size : Int32} {S0_cells : Nat → Int32} {S1_lane : Int32} {S1_size : Int32} {S1_cells : Nat → Int32} {S2_lane : Int32} {S2_size : Int32} {S2_cells : Nat → Int32} {S3_lane : Int32} {S3_size : Int32} {S3_cells : Nat → Int32} {x_textFault : Int32} {x_readFault : Int32} {m_state : Nat → Int32} {m_tape : Nat → Int32} {m_taped : Int32} {m_fault : Int32} {m_cuts : Nat → Int32} {m_letters : Nat → Int32} {m_silent : Int32} {m_seen : Nat → Int32} {m_seenMany : Int32} {m_isKept : Nat → Int32} {m_lanes : Nat → Int32} {m_lengths : Nat → Int32} {m_sheetCells : Nat → Int32} {m_torn : Int32} (T_draws : Int32) (T_foot : Int32) (T_point : Int32) (T_stiff : Int32) (T_bears : Int32) (T_year : Int32) (T_traits : Nat → Int32) (a1 : Int32) (a2 : Int32) (a3 : Int32) (a4 : Int32) (hR : zRel L_draws L_foot L_point L_stiff L_bears L_year L_traits A0_draws A0_foot A0_point A0_stiff A0_bears A0_year A0_traits A1_draws A1_foot A1_point A1_stiff A1_bears A1_year A1_traits x_kept P_length P_bytes N_size N_years N_cells S0_lane S0_size S0_cells S1_lane S1_size S1_cells S2_lane S2_size S2_cells S3_lane S3_size S3_cells x_textFault x_readFault m_state m_tape m_taped m_fault m_cuts m_letters m_silent m_seen m_seenMany m_isKept m_lanes m_lengths m_sheetCells m_torn) : ∃ (oX5 : Int32 × Int32 × Int32 × Int32 × Int32 × Int32 × Int32 × (Nat → Int32)) (oX6 : Int32 × (Nat → Int32)), p_X5_site a1 a2 a3 a4 L_draws L_foot L_point L_stiff L_bears L_year L_traits T_draws T_foot T_point T_stiff T_bears T_year T_traits = some oX5 ∧ p_X6_site a1 a2 a3 a4 m_silent m_state = some oX6 ∧ oX5.1 = oX6.1 ∧ zRel L_draws L_foot L_point L_stiff L_bears L_year L_traits A0_draws A0_foot A0_point A0_stiff A0_bears A0_year A0_traits A1_draws A1_foot A1_point A1_stiff A1_bears A1_year A1_traits x_kept P_length P_bytes N_size N_years N_cells S0_lane S0_size S0_cells S1_lane S1_size S1_cells S2_lane S2_size S2_cells S3_lane S3_size S3_cells x_textFault x_readFault oX6.2 m_tape m_taped m_fault m_cuts m_letters m_silent m_seen m_seenMany m_isKept m_lanes m_lengths m_sheetCells m_torn := by
  have hR0 := hR
  obtain ⟨hL, hA0, hA1, hT, hN, hS0, hS1, hS2, hS3, e1, e2, e3, e4, e5⟩ := hR
  subst e3
  have hL0 := hL
  obtain ⟨T, pt, yr, ⟨hV, hp, hy, hw⟩, ⟨rfl, rfl, rfl, rfl, rfl, rfl, hA⟩, hM⟩ := hL
  have hd := hV.1
  have g20 : z_get m_state 156 (20 : Int32) = some (nI (t_d T)) := by rw [← hM.1]; exact z_get_n (i := 20) (by decide) (by decide)
  rcases fit0 a1 with ⟨k, k0, k1, rfl, h1, h2⟩ | ⟨h1, h2⟩
  · rcases fit1 a2 with ⟨p, p0, p1, rfl, h3, h4⟩ | ⟨h3, h4⟩
    · rcases arg_cell a3 with ⟨c, hc, rfl, h5, h6⟩ | ⟨h5, h6, -⟩
      · have hput : p_X6_isPut (nI k) (nI p) (nI c) = some 1 := by
          unfold p_X6_isPut; rw [h2, zbs, if_neg z1n0, h4, zbs, if_neg z1n0, h6, zbs, if_neg z1n0]
        rcases arg_half a4 with ⟨w, hw1, rfl, h7, h8⟩ | ⟨h7, h8⟩
        · by_cases q : t_d T < 5
          · obtain ⟨ra, ha, x1, x2⟩ := a_site hV hA hp hy q k1 p1 hc T_draws T_foot T_point T_stiff T_bears T_year T_traits
            obtain ⟨rb, hb, y1, y2, y3⟩ := b_site hV hM hp hy q k1 p1 hc
            have hor := zbf_61 (h := zsite T pt yr k p c) (lab := nI) 100
            refine ⟨(if ra.1 = (-4 : Int32) then -4 else if nI w = 0 then ra.1 else ra.2.1, ra.2.2), (if rb.2.1 = (-4 : Int32) then rb.2.1 else if nI w = 0 then rb.2.1 else rb.1, rb.2.2), ?_, ?_, ?_, ?_⟩
            · unfold p_X5_site
              rw [h1, zbs, if_neg z1n0, h3, zbs, if_neg z1n0, h5, zbs, if_neg z1n0, h7, zbs, if_neg z1n0, a_full hd, zbs, if_pos q, if_pos rfl, ha, zbs]
              unfold p_X5_chosen
              (repeat' split) <;> rfl
            · unfold p_X6_site
              rw [hput, zbs, if_neg z1n0, h8, zbs, if_neg z1n0, g20, zbs, if_neg (show ¬ nI (t_d T) = (5 : Int32) from nI_ne' (b := 5) (by omega) (by omega) (by decide)), hb, zbs]
              (repeat' split) <;> rfl
            · try dsimp only
              rw [x1, x2, y1, y2]
              have hor' : zsb T pt yr k p c 100 = (-4, 61) ∨ (zsb T pt yr k p c 100).2 < 61 := hor
              generalize zsb T pt yr k p c 100 = B at hor'
              by_cases z : B.1 = (-4 : Int32)
              · rw [if_pos z, if_pos z]; exact z.symm
              · rw [if_neg z, if_neg z]
                have hlt : B.2 < 61 := by
                  rcases hor' with e | e
                  · rw [e] at z; exact absurd rfl z
                  · exact e
                rw [show zsu B.2 = B.2 from if_neg (by omega)]
            · exact ⟨zLo_Pg y3 hL0, zLo_I1 y3 hA0, zLo_I2 y3 hA1, hT, hN, hS0, hS1, hS2, hS3, e1, e2, rfl, e4, e5⟩
          · refine ⟨(-3, T_draws, T_foot, T_point, T_stiff, T_bears, T_year, T_traits), (-3, m_state), ?_, ?_, rfl, hR0⟩
            · unfold p_X5_site
              rw [h1, zbs, if_neg z1n0, h3, zbs, if_neg z1n0, h5, zbs, if_neg z1n0, h7, zbs, if_neg z1n0, a_full hd, zbs, if_neg q, if_neg z1n0]
            · unfold p_X6_site
              rw [hput, zbs, if_neg z1n0, h8, zbs, if_neg z1n0, g20, zbs, if_pos (show nI (t_d T) = (5 : Int32) by rw [show t_d T = 5 by omega]; rfl)]
        · refine ⟨(-1, T_draws, T_foot, T_point, T_stiff, T_bears, T_year, T_traits), (-1, m_state), ?_, ?_, rfl, hR0⟩
          · unfold p_X5_site
            rw [h1, zbs, if_neg z1n0, h3, zbs, if_neg z1n0, h5, zbs, if_neg z1n0, h7, zbs, if_pos rfl]
          · unfold p_X6_site
            rw [hput, zbs, if_neg z1n0, h8, zbs, if_pos rfl]
      · refine ⟨(-1, T_draws, T_foot, T_point, T_stiff, T_bears, T_year, T_traits), (-1, m_state), ?_, ?_, rfl, hR0⟩
        · unfold p_X5_site
          rw [h1, zbs, if_neg z1n0, h3, zbs, if_neg z1n0, h5, zbs, if_pos rfl]
        · unfold p_X6_site p_X6_isPut
          rw [h2, zbs, if_neg z1n0, h4, zbs, if_neg z1n0, h6, zbs, if_pos rfl, zbs, if_pos rfl]
    · refine ⟨(-1, T_draws, T_foot, T_point, T_stiff, T_bears, T_year, T_traits), (-1, m_state), ?_, ?_, rfl, hR0⟩
      · unfold p_X5_site
        rw [h1, zbs, if_neg z1n0, h3, zbs, if_pos rfl]
      · unfold p_X6_site p_X6_isPut
        rw [h2, zbs, if_neg z1n0, h4, zbs, if_pos rfl, zbs, if_pos rfl]
  · refine ⟨(-1, T_draws, T_foot, T_point, T_stiff, T_bears, T_year, T_traits), (-1, m_state), ?_, ?_, rfl, hR0⟩
    · unfold p_X5_site
      rw [h1, zbs, if_pos rfl]
    · unfold p_X6_site p_X6_isPut
      rw [h2, zbs, if_pos rfl, zbs, if_pos rfl]
