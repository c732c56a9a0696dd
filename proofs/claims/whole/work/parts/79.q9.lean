set_option maxHeartbeats 4000000 in
theorem q_text {L_draws : Int32} {L_foot : Int32} {L_point : Int32} {L_stiff : Int32} {L_bears : Int32} {L_year : Int32} {L_traits : Nat → Int32} {A0_draws : Int32} {A0_foot : Int32} {A0_point : Int32} {A0_stiff : Int32} {A0_bears : Int32} {A0_year : Int32} {A0_traits : Nat → Int32} {A1_draws : Int32} {A1_foot : Int32} {A1_point : Int32} {A1_stiff : Int32} {A1_bears : Int32} {A1_year : Int32} {A1_traits : Nat → Int32} {x_kept : Nat → Int32} {P_length : Int32} {P_bytes : Nat → Int32} {N_size : Int32} {N_years : Nat → Int32} {N_cells : Nat → Int32} {S0_lane : Int32} {S0_size : Int32} {S0_cells : Nat → Int32} {S1_lane : Int32} {S1_size : Int32} {S1_cells : Nat → Int32} {S2_lane : Int32} {S2_size : Int32} {S2_cells : Nat → Int32} {S3_lane : Int32} {S3_size : Int32} {S3_cells : Nat → Int32} {x_textFault : Int32} {x_readFault : Int32} {m_state : Nat → Int32} {m_tape : Nat → Int32} {m_taped : Int32} {m_fault : Int32} {m_cuts : Nat → Int32} {m_letters : Nat → Int32} {m_silent : Int32} {m_seen : Nat → Int32} {m_seenMany : Int32} {m_isKept : Nat → Int32} {m_lanes : Nat → Int32} {m_lengths : Nat → Int32} {m_sheetCells : Nat → Int32} {m_torn : Int32} (T_traits : Nat → Int32) (P_token : Int32) (P_tokenPlace : Int32) (P_number : Int32) (m_brokenAt : Int32) (m_here : Int32) (m_token : Int32) (m_value : Int32) (m_readPage : Nat → Int32) (hR : zRel L_draws L_foot L_point L_stiff L_bears L_year L_traits A0_draws A0_foot A0_point A0_stiff A0_bears A0_year A0_traits A1_draws A1_foot A1_point A1_stiff A1_bears A1_year A1_traits x_kept P_length P_bytes N_size N_years N_cells S0_lane S0_size S0_cells S1_lane S1_size S1_cells S2_lane S2_size S2_cells S3_lane S3_size S3_cells x_textFault x_readFault m_state m_tape m_taped m_fault m_cuts m_letters m_silent m_seen m_seenMany m_isKept m_lanes m_lengths m_sheetCells m_torn) : ∃ (oX5 : Int32 × Int32 × Int32 × Int32 × Int32 × Int32 × Int32 × Int32 × (Nat → Int32) × Int32 × Int32 × Int32 × Int32 × Int32 × Int32 × (Nat → Int32) × (Nat → Int32) × Int32 × Int32 × Int32 × Int32 × Int32 × Int32 × Int32 × Int32 × Int32) (oX6 : Int32 × Int32 × Int32 × Int32 × Int32 × Int32 × Int32 × Int32 × Int32 × Int32 × Int32 × (Nat → Int32) × (Nat → Int32) × (Nat → Int32)), p_X5_text L_draws L_foot L_point L_stiff L_bears L_year L_traits T_traits x_kept P_length P_token P_tokenPlace P_number P_bytes N_size = some oX5 ∧ p_X6_text m_taped m_brokenAt m_here m_token m_value m_seenMany m_state m_readPage m_tape m_cuts m_letters m_isKept = some oX6 ∧ oX5.1 = oX6.1 ∧ zRel oX5.2.2.1 oX5.2.2.2.1 oX5.2.2.2.2.1 oX5.2.2.2.2.2.1 oX5.2.2.2.2.2.2.1 oX5.2.2.2.2.2.2.2.1 oX5.2.2.2.2.2.2.2.2.1 A0_draws A0_foot A0_point A0_stiff A0_bears A0_year A0_traits A1_draws A1_foot A1_point A1_stiff A1_bears A1_year A1_traits oX5.2.2.2.2.2.2.2.2.2.2.2.2.2.2.2.2.1 oX5.2.2.2.2.2.2.2.2.2.2.2.2.2.2.2.2.2.1 P_bytes oX5.2.2.2.2.2.2.2.2.2.2.2.2.2.2.2.2.2.2.2.2.2.2.2.2.2 N_years N_cells S0_lane S0_size S0_cells S1_lane S1_size S1_cells S2_lane S2_size S2_cells S3_lane S3_size S3_cells oX5.2.1 x_readFault oX6.2.2.2.2.2.2.2.2.2.2.2.1 m_tape oX6.2.2.1 oX6.2.2.2.1 m_cuts m_letters m_silent m_seen oX6.2.2.2.2.2.2.2.2.2.2.1 oX6.2.2.2.2.2.2.2.2.2.2.2.2.2 m_lanes m_lengths m_sheetCells m_torn := by
  have hR0 := hR
  obtain ⟨hL, hA0, hA1, hT, hN, hS0, hS1, hS2, hS3, e1, e2, e3, e4, e5⟩ := hR
  obtain ⟨n, c, rfl, rfl, hB⟩ := zTape_f hT
  subst e4 e5
  obtain ⟨pg, o9, e14, r5, h1, h2, h3, h4, L, pl, tok, tp, num, told, fl, fp, dr, ft, po, st, be, tr, once, br, ba, sp, he, tk, va, pg', rfl, rfl, hE⟩ := t_tell hB P_token P_tokenPlace P_number m_brokenAt m_here m_token m_value T_traits m_readPage
  rcases hE with ⟨rfl, rfl, hP⟩ | hb
  · obtain ⟨G, g1, g2⟩ := b_pageC (nI L, once, (0 : Int32), ba, sp, he, tk, va, pg') rfl m_state
    have h5 : p_X5_text L_draws L_foot L_point L_stiff L_bears L_year L_traits T_traits x_kept (nI n) P_token P_tokenPlace P_number P_bytes N_size = some (nI L, (0 : Int32), dr, ft, po, st, be, (0 : Int32), zct tr L_traits, dr, ft, po, st, be, (0 : Int32), tr, upd (upd x_kept 0 0) 1 0, (0 : Int32), pl, tok, tp, num, told, (0 : Int32), fp, (0 : Int32)) := by
      unfold p_X5_text p_X4_clear p_X4_copyFrom
      rw [zbs]
      try dsimp only
      rw [h4, zbs]
      try dsimp only
      rw [if_pos rfl, zbs, a_unkeep, zbs]
      try rfl
    have h6 : p_X6_text (nI n) m_brokenAt m_here m_token m_value m_seenMany m_state m_readPage m_tape zcuts zletters m_isKept = some (nI L, once, (0 : Int32), (0 : Int32), (0 : Int32), ba, sp, he, tk, va, (0 : Int32), G, pg', upd (upd m_isKept 0 0) 1 0) := by
      unfold p_X6_text
      rw [h1, zbs, h2, zbs]
      try dsimp only
      rw [h3, zbs]
      try dsimp only
      rw [if_pos (show (0 : Int32) ≤ 0 by decide), g1, zbs, vb0, zs2_0, zbs, zs2_1, zbs]
    refine ⟨_, _, h5, h6, rfl, zPg_ct hP (fun j hj => g2 _ (by omega)), ⟨rfl, Or.inl rfl, fun z => absurd (show (0 : Int32) = 1 from z) (by decide)⟩, ⟨rfl, Or.inl rfl, fun z => absurd (show (0 : Int32) = 1 from z) (by decide)⟩, ⟨0, by decide, rfl, rfl, fun i hi => absurd hi (Nat.not_lt_zero i)⟩, ⟨0, by decide, rfl, rfl, fun i hi => absurd hi (Nat.not_lt_zero i)⟩, hS0, hS1, hS2, hS3, rfl, e2, e3, rfl, rfl⟩
  · obtain ⟨b1, b2, b3⟩ := zBd_n hb
    have h5 : p_X5_text L_draws L_foot L_point L_stiff L_bears L_year L_traits T_traits x_kept (nI n) P_token P_tokenPlace P_number P_bytes N_size = some ((-10 : Int32) - fp, fl, L_draws, L_foot, L_point, L_stiff, L_bears, L_year, L_traits, dr, ft, po, st, be, (0 : Int32), tr, x_kept, (0 : Int32), pl, tok, tp, num, told, fl, fp, N_size) := by
      unfold p_X5_text p_X4_clear p_X4_copyFrom
      rw [zbs]
      try dsimp only
      rw [h4, zbs]
      try dsimp only
      rw [if_neg b1]
    have h6 : p_X6_text (nI n) m_brokenAt m_here m_token m_value m_seenMany m_state m_readPage m_tape zcuts zletters m_isKept = some ((-10 : Int32) - ba, once, (0 : Int32), br, br, ba, sp, he, tk, va, m_seenMany, m_state, pg', m_isKept) := by
      unfold p_X6_text
      rw [h1, zbs, h2, zbs]
      try dsimp only
      rw [h3, zbs]
      try dsimp only
      rw [if_neg b3]
    obtain ⟨b, hh, c1, c2, q1, q2, q3, q4⟩ := hb
    refine ⟨_, _, h5, h6, ?_, hL, hA0, hA1, ⟨0, by decide, rfl, rfl, fun i hi => absurd hi (Nat.not_lt_zero i)⟩, hN, hS0, hS1, hS2, hS3, ?_, e2, e3, rfl, rfl⟩
    · show (-10 : Int32) - fp = (-10 : Int32) - ba
      rw [q2, q4]
    · show fl = br
      rw [q1, q3]
set_option maxHeartbeats 4000000 in
theorem q_ask {L_draws : Int32} {L_foot : Int32} {L_point : Int32} {L_stiff : Int32} {L_bears : Int32} {L_year : Int32} {L_traits : Nat → Int32} {A0_draws : Int32} {A0_foot : Int32} {A0_point : Int32} {A0_stiff : Int32} {A0_bears : Int32} {A0_year : Int32} {A0_traits : Nat → Int32} {A1_draws : Int32} {A1_foot : Int32} {A1_point : Int32} {A1_stiff : Int32} {A1_bears : Int32} {A1_year : Int32} {A1_traits : Nat → Int32} {x_kept : Nat → Int32} {P_length : Int32} {P_bytes : Nat → Int32} {N_size : Int32} {N_years : Nat → Int32} {N_cells : Nat → Int32} {S0_lane : Int32} {S0_size : Int32} {S0_cells : Nat → Int32} {S1_lane : Int32} {S1_size : Int32} {S1_cells : Nat → Int32} {S2_lane : Int32} {S2_size : Int32} {S2_cells : Nat → Int32} {S3_lane : Int32} {S3_size : Int32} {S3_cells : Nat → Int32} {x_textFault : Int32} {x_readFault : Int32} {m_state : Nat → Int32} {m_tape : Nat → Int32} {m_taped : Int32} {m_fault : Int32} {m_cuts : Nat → Int32} {m_letters : Nat → Int32} {m_silent : Int32} {m_seen : Nat → Int32} {m_seenMany : Int32} {m_isKept : Nat → Int32} {m_lanes : Nat → Int32} {m_lengths : Nat → Int32} {m_sheetCells : Nat → Int32} {m_torn : Int32} (T_draws : Int32) (T_foot : Int32) (T_point : Int32) (T_stiff : Int32) (T_bears : Int32) (T_year : Int32) (T_traits : Nat → Int32) (x_tally : Nat → Int32) (x_points : Nat → Int32) (m_pointBy : Nat → Int32) (a1 : Int32) (a2 : Int32) (hR : zRel L_draws L_foot L_point L_stiff L_bears L_year L_traits A0_draws A0_foot A0_point A0_stiff A0_bears A0_year A0_traits A1_draws A1_foot A1_point A1_stiff A1_bears A1_year A1_traits x_kept P_length P_bytes N_size N_years N_cells S0_lane S0_size S0_cells S1_lane S1_size S1_cells S2_lane S2_size S2_cells S3_lane S3_size S3_cells x_textFault x_readFault m_state m_tape m_taped m_fault m_cuts m_letters m_silent m_seen m_seenMany m_isKept m_lanes m_lengths m_sheetCells m_torn) : ∃ (oX5 : Int32 × Int32 × Int32 × Int32 × Int32 × Int32 × Int32 × (Nat → Int32) × (Nat → Int32) × (Nat → Int32)) (oX6 : Int32 × (Nat → Int32) × (Nat → Int32)), p_X5_ask a1 a2 L_draws L_foot L_point L_stiff L_bears L_year L_traits T_draws T_foot T_point T_stiff T_bears T_year T_traits N_size N_years N_cells x_tally x_points = some oX5 ∧ p_X6_ask a1 a2 m_silent m_seenMany m_state m_seen m_pointBy = some oX6 ∧ oX5.1 = oX6.1 ∧ zRel L_draws L_foot L_point L_stiff L_bears L_year L_traits A0_draws A0_foot A0_point A0_stiff A0_bears A0_year A0_traits A1_draws A1_foot A1_point A1_stiff A1_bears A1_year A1_traits x_kept P_length P_bytes N_size N_years N_cells S0_lane S0_size S0_cells S1_lane S1_size S1_cells S2_lane S2_size S2_cells S3_lane S3_size S3_cells x_textFault x_readFault oX6.2.1 m_tape m_taped m_fault m_cuts m_letters m_silent m_seen m_seenMany m_isKept m_lanes m_lengths m_sheetCells m_torn := by
  have hR0 := hR
  obtain ⟨hL, hA0, hA1, hT, hN, hS0, hS1, hS2, hS3, e1, e2, e3, e4, e5⟩ := hR
  subst e3
  have hL0 := hL
  have hN0 := hN
  obtain ⟨T, pt, yr, ⟨hV, hp, hy, hw⟩, ⟨rfl, rfl, rfl, rfl, rfl, rfl, hA⟩, hM⟩ := hL
  obtain ⟨n, sy, sc, rfl, rfl, hS⟩ := zSeen_f hN
  have hd := hV.1
  rcases arg_draw a1 hV.1 hM.1 with ⟨i, hi, rfl, h1, h2⟩ | ⟨h1, h2, -⟩
  · rcases arg_half a2 with ⟨w, hw1, rfl, h5, h6⟩ | ⟨h5, h6⟩
    · obtain ⟨ja, ha⟩ := a_bits1 hV hA hp hy hS hi T_draws T_foot T_point T_stiff T_bears T_year T_traits
      obtain ⟨g, pb, hb, hlo, hpb⟩ := b_pullsOf hV hM hp hy hS hi m_pointBy
      have hlt := zbN_lt (zP1 T pt yr n sy sc i) 1 20
      obtain ⟨g0, t1, t2⟩ := a_gather (tr := L_traits) hp (nI (t_d T)) (nI (t_ft T)) (nI (t_st T)) (nI (t_be T)) (nI yr) ja.2.2.2.2.2.2 x_points
      have hm := zcn_le 24 (zbN (zP1 T pt yr n sy sc i) 1 20)
      have c5 : p_J6_bitCount_0f7a4 (zbt (zP1 T pt yr n sy sc i) 1 20) = some (nI (zcn 24 (zbN (zP1 T pt yr n sy sc i) 1 20))) := by
        rw [zbt_N _ 20 (by decide)]; exact a_bitCount hlt
      have c6 : p_X6_bitsOf (zbt (zP1 T pt yr n sy sc i) 1 20) = some (nI (zcn 24 (zbN (zP1 T pt yr n sy sc i) 1 20))) := by
        rw [zbt_N _ 20 (by decide)]; exact b_bitsOf (by omega)
      obtain ⟨ra, k1, k2, k3⟩ := a_ask (P := zP1 T pt yr n sy sc i) hV hp hy hi hm (t := zct L_traits ja.2.2.2.2.2.2) (g := g0) (fun v => zA_t1 (zA_ct hd hA)) (fun v a1 a2 _ => t2 v a1 a2) (zbt (zP1 T pt yr n sy sc i) 1 20, ja) (nI (t_d T), nI (t_ft T), nI pt, nI (t_st T), nI (t_be T), nI yr, zct L_traits ja.2.2.2.2.2.2, g0) rfl rfl rfl rfl rfl (nI pt) x_tally
      have kb := b_ask (P := zP1 T pt yr n sy sc i) hV hp hm hpb (zbt (zP1 T pt yr n sy sc i) 1 20, g, pb) rfl rfl
      generalize zbf (zlf T pt yr i (zP1 T pt yr n sy sc i)) nI (-4, zcn 24 (zbN (zP1 T pt yr n sy sc i) 1 20)) 31 = Z at k2 k3 kb
      refine ⟨(if Z.1 = (-4 : Int32) then (-4 : Int32) else if nI w = 0 then Z.1 else nI Z.2, nI (t_d T), nI (t_ft T), ra.2.2.1, nI (t_st T), nI (t_be T), ra.2.2.2.1, ra.2.2.2.2.1, ra.2.2.2.2.2.1, ra.2.2.2.2.2.2), (if Z.1 = (-4 : Int32) then (-4 : Int32) else if nI w = 0 then Z.1 else nI Z.2, g, pb), ?_, ?_, rfl, zLo_Pg hlo hL0, zLo_I1 hlo hA0, zLo_I2 hlo hA1, hT, hN0, hS0, hS1, hS2, hS3, e1, e2, rfl, e4, e5⟩
      · unfold p_X5_ask p_X5_chosen
        rw [h1, zbs, if_neg z1n0, h5, zbs, if_neg z1n0, ha, zbs]
        try dsimp only
        rw [t1, zbs, c5, zbs, k1, zbs, k2, k3]
        by_cases z : Z.1 = (-4 : Int32)
        · rw [if_pos z, if_pos z]; try rfl
        · rw [if_neg z, if_neg z]
          by_cases z2 : nI w = 0
          · rw [if_pos z2, if_pos z2]; try rfl
          · rw [if_neg z2, if_neg z2]; try rfl
      · unfold p_X6_ask
        rw [h2, zbs, if_neg z1n0, h6, zbs, if_neg z1n0, hb, zbs]
        try dsimp only
        rw [c6, zbs, kb, zbs]
        try dsimp only
        by_cases z : Z.1 = (-4 : Int32)
        · rw [if_pos z, if_pos z, z]
        · rw [if_neg z, if_neg z]
          by_cases z2 : nI w = 0
          · rw [if_pos z2, if_pos z2]
          · rw [if_neg z2, if_neg z2]
    · refine ⟨(-1, T_draws, T_foot, T_point, T_stiff, T_bears, T_year, T_traits, x_tally, x_points), (-1, m_state, m_pointBy), ?_, ?_, rfl, hR0⟩
      · unfold p_X5_ask; rw [h1, zbs, if_neg z1n0, h5, zbs, if_pos rfl]
      · unfold p_X6_ask; rw [h2, zbs, if_neg z1n0, h6, zbs, if_pos rfl]
  · refine ⟨(-1, T_draws, T_foot, T_point, T_stiff, T_bears, T_year, T_traits, x_tally, x_points), (-1, m_state, m_pointBy), ?_, ?_, rfl, hR0⟩
    · unfold p_X5_ask; rw [h1, zbs, if_pos rfl]
    · unfold p_X6_ask; rw [h2, zbs, if_pos rfl]
set_option maxHeartbeats 4000000 in
theorem q_read {L_draws : Int32} {L_foot : Int32} {L_point : Int32} {L_stiff : Int32} {L_bears : Int32} {L_year : Int32} {L_traits : Nat → Int32} {A0_draws : Int32} {A0_foot : Int32} {A0_point : Int32} {A0_stiff : Int32} {A0_bears : Int32} {A0_year : Int32} {A0_traits : Nat → Int32} {A1_draws : Int32} {A1_foot : Int32} {A1_point : Int32} {A1_stiff : Int32} {A1_bears : Int32} {A1_year : Int32} {A1_traits : Nat → Int32} {x_kept : Nat → Int32} {P_length : Int32} {P_bytes : Nat → Int32} {N_size : Int32} {N_years : Nat → Int32} {N_cells : Nat → Int32} {S0_lane : Int32} {S0_size : Int32} {S0_cells : Nat → Int32} {S1_lane : Int32} {S1_size : Int32} {S1_cells : Nat → Int32} {S2_lane : Int32} {S2_size : Int32} {S2_cells : Nat → Int32} {S3_lane : Int32} {S3_size : Int32} {S3_cells : Nat → Int32} {x_textFault : Int32} {x_readFault : Int32} {m_state : Nat → Int32} {m_tape : Nat → Int32} {m_taped : Int32} {m_fault : Int32} {m_cuts : Nat → Int32} {m_letters : Nat → Int32} {m_silent : Int32} {m_seen : Nat → Int32} {m_seenMany : Int32} {m_isKept : Nat → Int32} {m_lanes : Nat → Int32} {m_lengths : Nat → Int32} {m_sheetCells : Nat → Int32} {m_torn : Int32} (T_draws : Int32) (T_foot : Int32) (T_point : Int32) (T_stiff : Int32) (T_bears : Int32) (T_year : Int32) (T_traits : Nat → Int32) (a1 : Int32) (a2 : Int32) (a3 : Int32) (a4 : Int32) (hR : zRel L_draws L_foot L_point L_stiff L_bears L_year L_traits A0_draws A0_foot A0_point A0_stiff A0_bears A0_year A0_traits A1_draws A1_foot A1_point A1_stiff A1_bears A1_year A1_traits x_kept P_length P_bytes N_size N_years N_cells S0_lane S0_size S0_cells S1_lane S1_size S1_cells S2_lane S2_size S2_cells S3_lane S3_size S3_cells x_textFault x_readFault m_state m_tape m_taped m_fault m_cuts m_letters m_silent m_seen m_seenMany m_isKept m_lanes m_lengths m_sheetCells m_torn) : ∃ (oX5 : Int32 × Int32 × Int32 × Int32 × Int32 × Int32 × Int32 × Int32 × (Nat → Int32) × Int32 × Int32 × Int32 × Int32 × Int32 × Int32 × (Nat → Int32)) (oX6 : Int32 × Int32 × (Nat → Int32)), p_X5_read a1 a2 a3 a4 x_readFault L_draws L_foot L_point L_stiff L_bears L_year L_traits T_draws T_foot T_point T_stiff T_bears T_year T_traits S0_lane S0_size S0_cells S1_lane S1_size S1_cells S2_lane S2_size S2_cells S3_lane S3_size S3_cells = some oX5 ∧ p_X6_read a1 a2 a3 a4 m_silent m_torn m_state m_lanes m_lengths m_sheetCells = some oX6 ∧ oX5.1 = oX6.1 ∧ zRel oX5.2.2.1 oX5.2.2.2.1 oX5.2.2.2.2.1 oX5.2.2.2.2.2.1 oX5.2.2.2.2.2.2.1 oX5.2.2.2.2.2.2.2.1 oX5.2.2.2.2.2.2.2.2.1 A0_draws A0_foot A0_point A0_stiff A0_bears A0_year A0_traits A1_draws A1_foot A1_point A1_stiff A1_bears A1_year A1_traits x_kept P_length P_bytes N_size N_years N_cells S0_lane S0_size S0_cells S1_lane S1_size S1_cells S2_lane S2_size S2_cells S3_lane S3_size S3_cells x_textFault oX5.2.1 oX6.2.2 m_tape m_taped m_fault m_cuts m_letters m_silent m_seen m_seenMany m_isKept m_lanes m_lengths m_sheetCells oX6.2.1 := by
  have hR0 := hR
  obtain ⟨hL, hA0, hA1, hT, hN, hS0, hS1, hS2, hS3, e1, e2, e3, e4, e5⟩ := hR
  subst e3
  have hL0 := hL
  obtain ⟨T, pt, yr, hW, ⟨rfl, rfl, rfl, rfl, rfl, rfl, hA⟩, hM⟩ := hL
  have hd := hW.1.1
  rcases arg_sheet a1 with ⟨k, hk, rfl, h1, h2⟩ | ⟨h1, h2⟩
  · rcases arg_lane a2 with ⟨l', hl, rfl, h3, h4⟩ | ⟨h3, h4⟩
    · rcases arg_in a4 (lo := 0) (hi := 20) (by decide) (by decide) with ⟨n, -, hn, rfl, h5, h6⟩ | ⟨h5, h6, -⟩
      · have h5' : p_X5_within (nI n) (0 : Int32) (20 : Int32) = some 1 := h5
        have h6' : p_X6_in (nI n).toInt64 (0 : Int64) (20 : Int64) = some 1 := h6
        have hcp : p_X6_copies (0 : Int32) (78 : Int32) m_state = some (zcp m_state 0 78) := b_copies (a := 0) (b := 78) (by decide) (by decide) (by decide)
        have hMc : zM T (zcp m_state 0 78) 0 (-4) pt yr := zM_congr hd hM (fun j hj => zcp_out (by omega))
        have hGa : ∀ j, j < 26 → zcp m_state 0 78 (78 + j) = m_state j := fun j hj => (zcp_in hj).trans (congrArg m_state (by omega))
        have hGb : ∀ j, 26 ≤ j → j < 78 → zcp m_state 0 78 j = m_state j := fun j _ hj => zcp_out (by omega)
        rcases (show k = 0 ∨ k = 1 ∨ k = 2 ∨ k = 3 by omega) with rfl | rfl | rfl | rfl
        · obtain ⟨r1, r2, q1, q2, q3⟩ := rd_both (k := 0) hW (zA_ct (b := T_traits) hd hA) hMc hGa hGb (by decide) hl hn hS0 a3 (nI pt) (nI yr) (zct L_traits T_traits) x_readFault (nI (t_d T)) (nI (t_ft T)) (nI pt) (nI (t_st T)) (nI (t_be T)) (nI yr) L_traits m_torn
          have q1' := q1
          unfold zct at q1'
          rcases q3 with ⟨w, b1, b2, b3, b4, b5, b6, b7, g, rfl, rfl, hg⟩ | ⟨c, b, T', p, y, tr', g, rfl, rfl, hW', d1, d2, d3, d4, hA', hM', hg⟩
          · refine ⟨(w, x_readFault, nI (t_d T), nI (t_ft T), nI pt, nI (t_st T), nI (t_be T), nI yr, L_traits, b1, b2, b3, b4, b5, b6, b7), (w, m_torn, g), ?_, ?_, rfl, zPg_keep hL0 (fun j hj => hg _ (by omega)), zIm_keep hA0 (fun j hj => hg _ (by omega)), zIm_keep hA1 (fun j hj => hg _ (by omega)), hT, hN, hS0, hS1, hS2, hS3, e1, e2, rfl, e4, e5⟩
            · unfold p_X5_read p_X4_copyFrom
              rw [h1, zbs, if_neg z1n0, h3, zbs, if_neg z1n0, h5', zbs, if_neg z1n0, if_pos (show nI 0 = (0 : Int32) from rfl), zbs]
              try dsimp only
              rw [q1', zbs]
              try rfl
            · unfold p_X6_read
              rw [h2, zbs, if_neg z1n0, h4, zbs, if_neg z1n0, h6', zbs, if_neg z1n0, hcp, zbs, q2, zbs]
              try rfl
          · refine ⟨(nI c, nI b, nI (t_d T), nI (t_ft T), nI p, nI (t_st T), nI (t_be T), nI y, zct tr' L_traits, nI (t_d T), nI (t_ft T), nI p, nI (t_st T), nI (t_be T), nI y, tr'), (nI c, nI b, g), ?_, ?_, rfl, ⟨T', p, y, hW', ⟨congrArg nI d1.symm, congrArg nI d2.symm, rfl, congrArg nI d3.symm, congrArg nI d4.symm, rfl, zA_ct hW'.1.1 hA'⟩, hM'⟩, zIm_keep hA0 (fun j hj => hg _ (by omega) (by omega)), zIm_keep hA1 (fun j hj => hg _ (by omega) (by omega)), hT, hN, hS0, hS1, hS2, hS3, e1, rfl, rfl, e4, e5⟩
            · unfold p_X5_read p_X4_copyFrom
              rw [h1, zbs, if_neg z1n0, h3, zbs, if_neg z1n0, h5', zbs, if_neg z1n0, if_pos (show nI 0 = (0 : Int32) from rfl), zbs]
              try dsimp only
              rw [q1', zbs]
              try rfl
            · unfold p_X6_read
              rw [h2, zbs, if_neg z1n0, h4, zbs, if_neg z1n0, h6', zbs, if_neg z1n0, hcp, zbs, q2, zbs]
              try rfl
        · obtain ⟨r1, r2, q1, q2, q3⟩ := rd_both (k := 1) hW (zA_ct (b := T_traits) hd hA) hMc hGa hGb (by decide) hl hn hS1 a3 (nI pt) (nI yr) (zct L_traits T_traits) x_readFault (nI (t_d T)) (nI (t_ft T)) (nI pt) (nI (t_st T)) (nI (t_be T)) (nI yr) L_traits m_torn
          have q1' := q1
          unfold zct at q1'
          rcases q3 with ⟨w, b1, b2, b3, b4, b5, b6, b7, g, rfl, rfl, hg⟩ | ⟨c, b, T', p, y, tr', g, rfl, rfl, hW', d1, d2, d3, d4, hA', hM', hg⟩
          · refine ⟨(w, x_readFault, nI (t_d T), nI (t_ft T), nI pt, nI (t_st T), nI (t_be T), nI yr, L_traits, b1, b2, b3, b4, b5, b6, b7), (w, m_torn, g), ?_, ?_, rfl, zPg_keep hL0 (fun j hj => hg _ (by omega)), zIm_keep hA0 (fun j hj => hg _ (by omega)), zIm_keep hA1 (fun j hj => hg _ (by omega)), hT, hN, hS0, hS1, hS2, hS3, e1, e2, rfl, e4, e5⟩
            · unfold p_X5_read p_X4_copyFrom
              rw [h1, zbs, if_neg z1n0, h3, zbs, if_neg z1n0, h5', zbs, if_neg z1n0, if_neg (show ¬ nI 1 = (0 : Int32) by decide), if_pos (show nI 1 = (1 : Int32) from rfl), zbs]
              try dsimp only
              rw [q1', zbs]
              try rfl
            · unfold p_X6_read
              rw [h2, zbs, if_neg z1n0, h4, zbs, if_neg z1n0, h6', zbs, if_neg z1n0, hcp, zbs, q2, zbs]
              try rfl
          · refine ⟨(nI c, nI b, nI (t_d T), nI (t_ft T), nI p, nI (t_st T), nI (t_be T), nI y, zct tr' L_traits, nI (t_d T), nI (t_ft T), nI p, nI (t_st T), nI (t_be T), nI y, tr'), (nI c, nI b, g), ?_, ?_, rfl, ⟨T', p, y, hW', ⟨congrArg nI d1.symm, congrArg nI d2.symm, rfl, congrArg nI d3.symm, congrArg nI d4.symm, rfl, zA_ct hW'.1.1 hA'⟩, hM'⟩, zIm_keep hA0 (fun j hj => hg _ (by omega) (by omega)), zIm_keep hA1 (fun j hj => hg _ (by omega) (by omega)), hT, hN, hS0, hS1, hS2, hS3, e1, rfl, rfl, e4, e5⟩
            · unfold p_X5_read p_X4_copyFrom
              rw [h1, zbs, if_neg z1n0, h3, zbs, if_neg z1n0, h5', zbs, if_neg z1n0, if_neg (show ¬ nI 1 = (0 : Int32) by decide), if_pos (show nI 1 = (1 : Int32) from rfl), zbs]
              try dsimp only
              rw [q1', zbs]
              try rfl
            · unfold p_X6_read
              rw [h2, zbs, if_neg z1n0, h4, zbs, if_neg z1n0, h6', zbs, if_neg z1n0, hcp, zbs, q2, zbs]
              try rfl
        · obtain ⟨r1, r2, q1, q2, q3⟩ := rd_both (k := 2) hW (zA_ct (b := T_traits) hd hA) hMc hGa hGb (by decide) hl hn hS2 a3 (nI pt) (nI yr) (zct L_traits T_traits) x_readFault (nI (t_d T)) (nI (t_ft T)) (nI pt) (nI (t_st T)) (nI (t_be T)) (nI yr) L_traits m_torn
          have q1' := q1
          unfold zct at q1'
          rcases q3 with ⟨w, b1, b2, b3, b4, b5, b6, b7, g, rfl, rfl, hg⟩ | ⟨c, b, T', p, y, tr', g, rfl, rfl, hW', d1, d2, d3, d4, hA', hM', hg⟩
          · refine ⟨(w, x_readFault, nI (t_d T), nI (t_ft T), nI pt, nI (t_st T), nI (t_be T), nI yr, L_traits, b1, b2, b3, b4, b5, b6, b7), (w, m_torn, g), ?_, ?_, rfl, zPg_keep hL0 (fun j hj => hg _ (by omega)), zIm_keep hA0 (fun j hj => hg _ (by omega)), zIm_keep hA1 (fun j hj => hg _ (by omega)), hT, hN, hS0, hS1, hS2, hS3, e1, e2, rfl, e4, e5⟩
            · unfold p_X5_read p_X4_copyFrom
              rw [h1, zbs, if_neg z1n0, h3, zbs, if_neg z1n0, h5', zbs, if_neg z1n0, if_neg (show ¬ nI 2 = (0 : Int32) by decide), if_neg (show ¬ nI 2 = (1 : Int32) by decide), if_pos (show nI 2 = (2 : Int32) from rfl), zbs]
              try dsimp only
              rw [q1', zbs]
              try rfl
            · unfold p_X6_read
              rw [h2, zbs, if_neg z1n0, h4, zbs, if_neg z1n0, h6', zbs, if_neg z1n0, hcp, zbs, q2, zbs]
              try rfl
          · refine ⟨(nI c, nI b, nI (t_d T), nI (t_ft T), nI p, nI (t_st T), nI (t_be T), nI y, zct tr' L_traits, nI (t_d T), nI (t_ft T), nI p, nI (t_st T), nI (t_be T), nI y, tr'), (nI c, nI b, g), ?_, ?_, rfl, ⟨T', p, y, hW', ⟨congrArg nI d1.symm, congrArg nI d2.symm, rfl, congrArg nI d3.symm, congrArg nI d4.symm, rfl, zA_ct hW'.1.1 hA'⟩, hM'⟩, zIm_keep hA0 (fun j hj => hg _ (by omega) (by omega)), zIm_keep hA1 (fun j hj => hg _ (by omega) (by omega)), hT, hN, hS0, hS1, hS2, hS3, e1, rfl, rfl, e4, e5⟩
            · unfold p_X5_read p_X4_copyFrom
              rw [h1, zbs, if_neg z1n0, h3, zbs, if_neg z1n0, h5', zbs, if_neg z1n0, if_neg (show ¬ nI 2 = (0 : Int32) by decide), if_neg (show ¬ nI 2 = (1 : Int32) by decide), if_pos (show nI 2 = (2 : Int32) from rfl), zbs]
              try dsimp only
              rw [q1', zbs]
              try rfl
            · unfold p_X6_read
              rw [h2, zbs, if_neg z1n0, h4, zbs, if_neg z1n0, h6', zbs, if_neg z1n0, hcp, zbs, q2, zbs]
              try rfl
        · obtain ⟨r1, r2, q1, q2, q3⟩ := rd_both (k := 3) hW (zA_ct (b := T_traits) hd hA) hMc hGa hGb (by decide) hl hn hS3 a3 (nI pt) (nI yr) (zct L_traits T_traits) x_readFault (nI (t_d T)) (nI (t_ft T)) (nI pt) (nI (t_st T)) (nI (t_be T)) (nI yr) L_traits m_torn
          have q1' := q1
          unfold zct at q1'
          rcases q3 with ⟨w, b1, b2, b3, b4, b5, b6, b7, g, rfl, rfl, hg⟩ | ⟨c, b, T', p, y, tr', g, rfl, rfl, hW', d1, d2, d3, d4, hA', hM', hg⟩
          · refine ⟨(w, x_readFault, nI (t_d T), nI (t_ft T), nI pt, nI (t_st T), nI (t_be T), nI yr, L_traits, b1, b2, b3, b4, b5, b6, b7), (w, m_torn, g), ?_, ?_, rfl, zPg_keep hL0 (fun j hj => hg _ (by omega)), zIm_keep hA0 (fun j hj => hg _ (by omega)), zIm_keep hA1 (fun j hj => hg _ (by omega)), hT, hN, hS0, hS1, hS2, hS3, e1, e2, rfl, e4, e5⟩
            · unfold p_X5_read p_X4_copyFrom
              rw [h1, zbs, if_neg z1n0, h3, zbs, if_neg z1n0, h5', zbs, if_neg z1n0, if_neg (show ¬ nI 3 = (0 : Int32) by decide), if_neg (show ¬ nI 3 = (1 : Int32) by decide), if_neg (show ¬ nI 3 = (2 : Int32) by decide), if_pos (show nI 3 = (3 : Int32) from rfl), zbs]
              try dsimp only
              rw [q1', zbs]
              try rfl
            · unfold p_X6_read
              rw [h2, zbs, if_neg z1n0, h4, zbs, if_neg z1n0, h6', zbs, if_neg z1n0, hcp, zbs, q2, zbs]
              try rfl
          · refine ⟨(nI c, nI b, nI (t_d T), nI (t_ft T), nI p, nI (t_st T), nI (t_be T), nI y, zct tr' L_traits, nI (t_d T), nI (t_ft T), nI p, nI (t_st T), nI (t_be T), nI y, tr'), (nI c, nI b, g), ?_, ?_, rfl, ⟨T', p, y, hW', ⟨congrArg nI d1.symm, congrArg nI d2.symm, rfl, congrArg nI d3.symm, congrArg nI d4.symm, rfl, zA_ct hW'.1.1 hA'⟩, hM'⟩, zIm_keep hA0 (fun j hj => hg _ (by omega) (by omega)), zIm_keep hA1 (fun j hj => hg _ (by omega) (by omega)), hT, hN, hS0, hS1, hS2, hS3, e1, rfl, rfl, e4, e5⟩
            · unfold p_X5_read p_X4_copyFrom
              rw [h1, zbs, if_neg z1n0, h3, zbs, if_neg z1n0, h5', zbs, if_neg z1n0, if_neg (show ¬ nI 3 = (0 : Int32) by decide), if_neg (show ¬ nI 3 = (1 : Int32) by decide), if_neg (show ¬ nI 3 = (2 : Int32) by decide), if_pos (show nI 3 = (3 : Int32) from rfl), zbs]
              try dsimp only
              rw [q1', zbs]
              try rfl
            · unfold p_X6_read
              rw [h2, zbs, if_neg z1n0, h4, zbs, if_neg z1n0, h6', zbs, if_neg z1n0, hcp, zbs, q2, zbs]
              try rfl
      · have h5' : p_X5_within a4 (0 : Int32) (20 : Int32) = some 0 := h5
        have h6' : p_X6_in a4.toInt64 (0 : Int64) (20 : Int64) = some 0 := h6
        refine ⟨(-1, x_readFault, nI (t_d T), nI (t_ft T), nI pt, nI (t_st T), nI (t_be T), nI yr, L_traits, T_draws, T_foot, T_point, T_stiff, T_bears, T_year, T_traits), (-1, m_torn, m_state), ?_, ?_, rfl, hR0⟩
        · unfold p_X5_read; rw [h1, zbs, if_neg z1n0, h3, zbs, if_neg z1n0, h5', zbs, if_pos rfl]
        · unfold p_X6_read; rw [h2, zbs, if_neg z1n0, h4, zbs, if_neg z1n0, h6', zbs, if_pos rfl]
    · refine ⟨(-1, x_readFault, nI (t_d T), nI (t_ft T), nI pt, nI (t_st T), nI (t_be T), nI yr, L_traits, T_draws, T_foot, T_point, T_stiff, T_bears, T_year, T_traits), (-1, m_torn, m_state), ?_, ?_, rfl, hR0⟩
      · unfold p_X5_read; rw [h1, zbs, if_neg z1n0, h3, zbs, if_pos rfl]
      · unfold p_X6_read; rw [h2, zbs, if_neg z1n0, h4, zbs, if_pos rfl]
  · refine ⟨(-1, x_readFault, nI (t_d T), nI (t_ft T), nI pt, nI (t_st T), nI (t_be T), nI yr, L_traits, T_draws, T_foot, T_point, T_stiff, T_bears, T_year, T_traits), (-1, m_torn, m_state), ?_, ?_, rfl, hR0⟩
    · unfold p_X5_read; rw [h1, zbs, if_pos rfl]
    · unfold p_X6_read; rw [h2, zbs, if_pos rfl]
