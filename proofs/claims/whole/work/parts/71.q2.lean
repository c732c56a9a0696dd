set_option maxHeartbeats 4000000 in
theorem q_rule {L_draws : Int32} {L_foot : Int32} {L_point : Int32} {L_stiff : Int32} {L_bears : Int32} {L_year : Int32} {L_traits : Nat → Int32} {A0_draws : Int32} {A0_foot : Int32} {A0_point : Int32} {A0_stiff : Int32} {A0_bears : Int32} {A0_year : Int32} {A0_traits : Nat → Int32} {A1_draws : Int32} {A1_foot : Int32} {A1_point : Int32} {A1_stiff : Int32} {A1_bears : Int32} {A1_year : Int32} {A1_traits : Nat → Int32} {x_kept : Nat → Int32} {P_length : Int32} {P_bytes : Nat → Int32} {N_size : Int32} {N_years : Nat → Int32} {N_cells : Nat → Int32} {S0_lane : Int32} {S0_size : Int32} {S0_cells : Nat → Int32} {S1_lane : Int32} {S1_size : Int32} {S1_cells : Nat → Int32} {S2_lane : Int32} {S2_size : Int32} {S2_cells : Nat → Int32} {S3_lane : Int32} {S3_size : Int32} {S3_cells : Nat → Int32} {x_textFault : Int32} {x_readFault : Int32} {m_state : Nat → Int32} {m_tape : Nat → Int32} {m_taped : Int32} {m_fault : Int32} {m_cuts : Nat → Int32} {m_letters : Nat → Int32} {m_silent : Int32} {m_seen : Nat → Int32} {m_seenMany : Int32} {m_isKept : Nat → Int32} {m_lanes : Nat → Int32} {m_lengths : Nat → Int32} {m_sheetCells : Nat → Int32} {m_torn : Int32} (a1 : Int32) (hR : zRel L_draws L_foot L_point L_stiff L_bears L_year L_traits A0_draws A0_foot A0_point A0_stiff A0_bears A0_year A0_traits A1_draws A1_foot A1_point A1_stiff A1_bears A1_year A1_traits x_kept P_length P_bytes N_size N_years N_cells S0_lane S0_size S0_cells S1_lane S1_size S1_cells S2_lane S2_size S2_cells S3_lane S3_size S3_cells x_textFault x_readFault m_state m_tape m_taped m_fault m_cuts m_letters m_silent m_seen m_seenMany m_isKept m_lanes m_lengths m_sheetCells m_torn) : ∃ (oX5 : Int32) (oX6 : Int32), p_X5_rule a1 L_draws L_foot L_point L_stiff L_bears L_year L_traits = some oX5 ∧ p_X6_rule a1 m_silent m_state = some oX6 ∧ oX5 = oX6 ∧ zRel L_draws L_foot L_point L_stiff L_bears L_year L_traits A0_draws A0_foot A0_point A0_stiff A0_bears A0_year A0_traits A1_draws A1_foot A1_point A1_stiff A1_bears A1_year A1_traits x_kept P_length P_bytes N_size N_years N_cells S0_lane S0_size S0_cells S1_lane S1_size S1_cells S2_lane S2_size S2_cells S3_lane S3_size S3_cells x_textFault x_readFault m_state m_tape m_taped m_fault m_cuts m_letters m_silent m_seen m_seenMany m_isKept m_lanes m_lengths m_sheetCells m_torn := by
  have hR0 := hR
  obtain ⟨hL, hA0, hA1, hT, hN, hS0, hS1, hS2, hS3, e1, e2, e3, e4, e5⟩ := hR
  subst e3
  obtain ⟨T, pt, yr, ⟨hV, hp, hy, hw⟩, ⟨rfl, rfl, rfl, rfl, rfl, rfl, hA⟩, hM⟩ := hL
  have hM' : zM T m_state 0 (-4) pt yr := hM
  obtain ⟨m1, m2, m3, m4, m5, m6, m7⟩ := hM'
  suffices h : ∃ r, p_X5_rule a1 (nI (t_d T)) (nI (t_ft T)) (nI pt) (nI (t_st T)) (nI (t_be T)) (nI yr) L_traits = some r ∧ p_X6_rule a1 (-4) m_state = some r by
    obtain ⟨r, h1, h2⟩ := h
    exact ⟨r, r, h1, h2, rfl, hR0⟩
  unfold p_X5_rule p_X6_rule
  by_cases c0 : a1 = 0
  · rw [if_pos c0, if_pos c0, z_get_e 20 (show (20 : Int32) = nI 20 from rfl) (by decide) (by decide)]
    exact ⟨_, rfl, congrArg some m1⟩
  rw [if_neg c0, if_neg c0]
  by_cases c1 : a1 = 1
  · rw [if_pos c1, if_pos c1, z_get_e 25 (show (25 : Int32) = nI 25 from rfl) (by decide) (by decide)]
    exact ⟨_, rfl, congrArg some m6⟩
  rw [if_neg c1, if_neg c1]
  by_cases c2 : a1 = 2
  · rw [if_pos c2, if_pos c2, z_get_e 21 (show (21 : Int32) = nI 21 from rfl) (by decide) (by decide)]
    exact ⟨_, rfl, congrArg some m2⟩
  rw [if_neg c2, if_neg c2]
  by_cases c3 : a1 = 3
  · rw [if_pos c3, if_pos c3, show p_X6_pointOn (0 : Int32) m_state = some (nI pt) from b_point hM (by decide)]
    exact ⟨_, rfl, rfl⟩
  rw [if_neg c3, if_neg c3]
  by_cases c4 : a1 = 4
  · rw [if_pos c4, if_pos c4, a_lean hV hp, show p_X6_leanOn (0 : Int32) m_state = some (nI (zln_ T pt)) from b_lean hV hM (by decide) hp]
    exact ⟨_, rfl, rfl⟩
  rw [if_neg c4, if_neg c4]
  by_cases c5 : a1 = 5
  · rw [if_pos c5, if_pos c5, a_fallen hV hp, show p_X6_isFallenOn (0 : Int32) m_state = _ from b_fallen hV hM (by decide) hp, zbs]
    by_cases q : zln_ T pt ≤ t_be T
    · rw [if_pos q, if_pos rfl]; exact ⟨_, rfl, rfl⟩
    · rw [if_neg q, if_neg (show ¬ (1 : Int32) = 0 by decide)]; exact ⟨_, rfl, rfl⟩
  rw [if_neg c5, if_neg c5]
  by_cases c6 : a1 = 6
  · rw [if_pos c6, if_pos c6, a_holder hV hA hp (by omega), show p_X6_holderOn (0 : Int32) (-4) m_state = _ from b_holder hV hM (by decide) hp (by omega)]
    exact ⟨_, rfl, rfl⟩
  rw [if_neg c6, if_neg c6]
  by_cases c7 : a1 = 7
  · rw [if_pos c7, if_pos c7, show p_X6_backOn (0 : Int32) m_state = _ from b_back hV hM (by decide) hp]
    refine ⟨nI (t_st T * zln_ T pt), ?_, rfl⟩
    unfold p_X4_pullBack
    rw [a_lean hV hp, zbs, pk_mul]; rfl
  rw [if_neg c7, if_neg c7]
  by_cases c8 : a1 = 8
  · rw [if_pos c8, if_pos c8, z_get_e 23 (show (23 : Int32) = nI 23 from rfl) (by decide) (by decide)]
    exact ⟨_, rfl, congrArg some m4⟩
  rw [if_neg c8, if_neg c8]
  by_cases c9 : a1 = 9
  · rw [if_pos c9, if_pos c9, z_get_e 24 (show (24 : Int32) = nI 24 from rfl) (by decide) (by decide)]
    exact ⟨_, rfl, congrArg some m5⟩
  rw [if_neg c9, if_neg c9]
  exact ⟨_, rfl, rfl⟩
set_option maxHeartbeats 4000000 in
theorem q_years {L_draws : Int32} {L_foot : Int32} {L_point : Int32} {L_stiff : Int32} {L_bears : Int32} {L_year : Int32} {L_traits : Nat → Int32} {A0_draws : Int32} {A0_foot : Int32} {A0_point : Int32} {A0_stiff : Int32} {A0_bears : Int32} {A0_year : Int32} {A0_traits : Nat → Int32} {A1_draws : Int32} {A1_foot : Int32} {A1_point : Int32} {A1_stiff : Int32} {A1_bears : Int32} {A1_year : Int32} {A1_traits : Nat → Int32} {x_kept : Nat → Int32} {P_length : Int32} {P_bytes : Nat → Int32} {N_size : Int32} {N_years : Nat → Int32} {N_cells : Nat → Int32} {S0_lane : Int32} {S0_size : Int32} {S0_cells : Nat → Int32} {S1_lane : Int32} {S1_size : Int32} {S1_cells : Nat → Int32} {S2_lane : Int32} {S2_size : Int32} {S2_cells : Nat → Int32} {S3_lane : Int32} {S3_size : Int32} {S3_cells : Nat → Int32} {x_textFault : Int32} {x_readFault : Int32} {m_state : Nat → Int32} {m_tape : Nat → Int32} {m_taped : Int32} {m_fault : Int32} {m_cuts : Nat → Int32} {m_letters : Nat → Int32} {m_silent : Int32} {m_seen : Nat → Int32} {m_seenMany : Int32} {m_isKept : Nat → Int32} {m_lanes : Nat → Int32} {m_lengths : Nat → Int32} {m_sheetCells : Nat → Int32} {m_torn : Int32} (a1 : Int32) (hR : zRel L_draws L_foot L_point L_stiff L_bears L_year L_traits A0_draws A0_foot A0_point A0_stiff A0_bears A0_year A0_traits A1_draws A1_foot A1_point A1_stiff A1_bears A1_year A1_traits x_kept P_length P_bytes N_size N_years N_cells S0_lane S0_size S0_cells S1_lane S1_size S1_cells S2_lane S2_size S2_cells S3_lane S3_size S3_cells x_textFault x_readFault m_state m_tape m_taped m_fault m_cuts m_letters m_silent m_seen m_seenMany m_isKept m_lanes m_lengths m_sheetCells m_torn) : ∃ (oX5 : Int32 × Int32 × Int32) (oX6 : Int32 × (Nat → Int32)), p_X5_years a1 L_draws L_foot L_point L_stiff L_bears L_year L_traits = some oX5 ∧ p_X6_years a1 m_silent m_state = some oX6 ∧ oX5.1 = oX6.1 ∧ zRel L_draws L_foot oX5.2.1 L_stiff L_bears oX5.2.2 L_traits A0_draws A0_foot A0_point A0_stiff A0_bears A0_year A0_traits A1_draws A1_foot A1_point A1_stiff A1_bears A1_year A1_traits x_kept P_length P_bytes N_size N_years N_cells S0_lane S0_size S0_cells S1_lane S1_size S1_cells S2_lane S2_size S2_cells S3_lane S3_size S3_cells x_textFault x_readFault oX6.2 m_tape m_taped m_fault m_cuts m_letters m_silent m_seen m_seenMany m_isKept m_lanes m_lengths m_sheetCells m_torn := by
  have hR0 := hR
  obtain ⟨hL, hA0, hA1, hT, hN, hS0, hS1, hS2, hS3, e1, e2, e3, e4, e5⟩ := hR
  subst e3
  have hL0 := hL
  obtain ⟨T, pt, yr, ⟨hV, hp, hy, hw⟩, ⟨rfl, rfl, rfl, rfl, rfl, rfl, hA⟩, hM⟩ := hL
  rcases arg_in a1 (lo := 0) (hi := 30) (by decide) (by decide) with ⟨j, -, hj, rfl, h1, h2⟩ | ⟨h1, h2, -⟩
  · have h1' : p_X5_within (nI j) (0 : Int32) (30 : Int32) = some 1 := h1
    have h2' : p_X6_in (nI j).toInt64 (0 : Int64) (30 : Int64) = some 1 := h2
    have g25 : z_get m_state 156 (25 : Int32) = some (nI yr) := (z_get_e 25 rfl (by decide) (by decide)).trans (congrArg some hM.2.2.2.2.2.1)
    by_cases c : yr + j ≤ 999
    · have c1 : nI yr + nI j ≤ (999 : Int32) := by rw [nI_add]; exact nI_le (b := 999) c (by decide)
      have hM2 := zyr_M hM (zps T pt yr j) (yr + j) hV.1
      refine ⟨(nI (zps T pt yr j), nI (zps T pt yr j), nI (yr + j)), (nI (zps T pt yr j), zyr m_state 0 (zps T pt yr j) (yr + j)), ?_, ?_, rfl, ⟨T, zps T pt yr j, yr + j, ⟨hV, zps_lt hV hp j, c, hw⟩, ⟨rfl, rfl, rfl, rfl, rfl, rfl, hA⟩, hM2⟩, zIm_keep hA0 (fun i hi => zyr_out (by omega)), zIm_keep hA1 (fun i hi => zyr_out (by omega)), hT, hN, hS0, hS1, hS2, hS3, e1, e2, rfl, e4, e5⟩
      · unfold p_X5_years
        rw [h1', zbs, if_neg (show ¬ (1 : Int32) = 0 by decide), if_pos c1, a_years hV hA hp (by omega) (by omega)]
        rfl
      · unfold p_X6_years
        rw [h2', zbs, if_neg (show ¬ (1 : Int32) = 0 by decide), g25, zbs, if_pos c1, b_years hV hM hp (by omega) (by omega), zbs, show p_X6_pointOn (0 : Int32) (zyr m_state 0 (zps T pt yr j) (yr + j)) = _ from b_point hM2 (by decide)]
        rfl
    · have c1 : ¬ nI yr + nI j ≤ (999 : Int32) := by rw [nI_add]; exact nI_nle' (b := 999) c (by omega)
      refine ⟨(-3, nI pt, nI yr), (-3, m_state), ?_, ?_, rfl, hR0⟩
      · unfold p_X5_years
        rw [h1', zbs, if_neg (show ¬ (1 : Int32) = 0 by decide), if_neg c1]
      · unfold p_X6_years
        rw [h2', zbs, if_neg (show ¬ (1 : Int32) = 0 by decide), g25, zbs, if_neg c1]
  · have h1' : p_X5_within a1 (0 : Int32) (30 : Int32) = some 0 := h1
    have h2' : p_X6_in a1.toInt64 (0 : Int64) (30 : Int64) = some 0 := h2
    refine ⟨(-1, nI pt, nI yr), (-1, m_state), ?_, ?_, rfl, hR0⟩
    · unfold p_X5_years; rw [h1', zbs, if_pos rfl]
    · unfold p_X6_years; rw [h2', zbs, if_pos rfl]
set_option maxHeartbeats 4000000 in
theorem q_draw {L_draws : Int32} {L_foot : Int32} {L_point : Int32} {L_stiff : Int32} {L_bears : Int32} {L_year : Int32} {L_traits : Nat → Int32} {A0_draws : Int32} {A0_foot : Int32} {A0_point : Int32} {A0_stiff : Int32} {A0_bears : Int32} {A0_year : Int32} {A0_traits : Nat → Int32} {A1_draws : Int32} {A1_foot : Int32} {A1_point : Int32} {A1_stiff : Int32} {A1_bears : Int32} {A1_year : Int32} {A1_traits : Nat → Int32} {x_kept : Nat → Int32} {P_length : Int32} {P_bytes : Nat → Int32} {N_size : Int32} {N_years : Nat → Int32} {N_cells : Nat → Int32} {S0_lane : Int32} {S0_size : Int32} {S0_cells : Nat → Int32} {S1_lane : Int32} {S1_size : Int32} {S1_cells : Nat → Int32} {S2_lane : Int32} {S2_size : Int32} {S2_cells : Nat → Int32} {S3_lane : Int32} {S3_size : Int32} {S3_cells : Nat → Int32} {x_textFault : Int32} {x_readFault : Int32} {m_state : Nat → Int32} {m_tape : Nat → Int32} {m_taped : Int32} {m_fault : Int32} {m_cuts : Nat → Int32} {m_letters : Nat → Int32} {m_silent : Int32} {m_seen : Nat → Int32} {m_seenMany : Int32} {m_isKept : Nat → Int32} {m_lanes : Nat → Int32} {m_lengths : Nat → Int32} {m_sheetCells : Nat → Int32} {m_torn : Int32} (a1 : Int32) (a2 : Int32) (hR : zRel L_draws L_foot L_point L_stiff L_bears L_year L_traits A0_draws A0_foot A0_point A0_stiff A0_bears A0_year A0_traits A1_draws A1_foot A1_point A1_stiff A1_bears A1_year A1_traits x_kept P_length P_bytes N_size N_years N_cells S0_lane S0_size S0_cells S1_lane S1_size S1_cells S2_lane S2_size S2_cells S3_lane S3_size S3_cells x_textFault x_readFault m_state m_tape m_taped m_fault m_cuts m_letters m_silent m_seen m_seenMany m_isKept m_lanes m_lengths m_sheetCells m_torn) : ∃ (oX5 : Int32) (oX6 : Int32), p_X5_draw a1 a2 L_draws L_point L_year L_traits = some oX5 ∧ p_X6_draw a1 a2 m_silent m_state = some oX6 ∧ oX5 = oX6 ∧ zRel L_draws L_foot L_point L_stiff L_bears L_year L_traits A0_draws A0_foot A0_point A0_stiff A0_bears A0_year A0_traits A1_draws A1_foot A1_point A1_stiff A1_bears A1_year A1_traits x_kept P_length P_bytes N_size N_years N_cells S0_lane S0_size S0_cells S1_lane S1_size S1_cells S2_lane S2_size S2_cells S3_lane S3_size S3_cells x_textFault x_readFault m_state m_tape m_taped m_fault m_cuts m_letters m_silent m_seen m_seenMany m_isKept m_lanes m_lengths m_sheetCells m_torn := by
  have hR0 := hR
  obtain ⟨hL, hA0, hA1, hT, hN, hS0, hS1, hS2, hS3, e1, e2, e3, e4, e5⟩ := hR
  subst e3
  obtain ⟨T, pt, yr, ⟨hV, hp, hy, hw⟩, ⟨rfl, rfl, rfl, rfl, rfl, rfl, hA⟩, hM⟩ := hL
  have hM' : zM T m_state 0 (-4) pt yr := hM
  obtain ⟨m1, m2, m3, m4, m5, m6, m7⟩ := hM'
  have hd := hV.1
  suffices h : ∃ r, p_X5_draw a1 a2 (nI (t_d T)) (nI pt) (nI yr) L_traits = some r ∧ p_X6_draw a1 a2 (-4) m_state = some r by
    obtain ⟨r, h1, h2⟩ := h
    exact ⟨r, r, h1, h2, rfl, hR0⟩
  rcases arg_draw a1 hd (f := m_state) m1 with ⟨i, hi, rfl, h1, h2⟩ | ⟨h1, h2, -⟩
  · obtain ⟨t0, t1, t2, t3⟩ := hA i hi
    obtain ⟨r1, r2, r3, r4, r5⟩ := m7 i hi
    obtain ⟨b1, b2, b3, b4⟩ := hV.2.2.2.2 i hi
    have r4' : m_state (15 + i) = nI (t_si T i) := by
      have := r5 (nI_m4 (by omega))
      rwa [show 0 + 15 + i = 15 + i by omega] at this
    rw [show 0 + i = i by omega] at r1
    rw [show 0 + 5 + i = 5 + i by omega] at r2
    rw [show 0 + 10 + i = 10 + i by omega] at r3
    unfold p_X5_draw p_X6_draw
    rw [h1, zbs, if_neg (show ¬ (1 : Int32) = 0 by decide), h2, zbs, if_neg (show ¬ (1 : Int32) = 0 by decide)]
    rcases arg_in a2 (lo := 0) (hi := 6) (by decide) (by decide) with ⟨w, -, hw6, rfl, -, h4⟩ | ⟨-, h4, h5⟩
    · rw [show p_X6_in (nI w).toInt64 (0 : Int64) (6 : Int64) = some 1 from h4, zbs, if_neg (show ¬ (1 : Int32) = 0 by decide)]
      have g : w < 4 → z_get m_state 156 (((5 : Int32) * nI w) + nI i) = some (m_state (5 * w + i)) := fun q => z_get_e (5 * w + i) (by rw [zi5, pk_mul, nI_add]) (by omega) (by decide)
      rcases (show w = 0 ∨ w = 1 ∨ w = 2 ∨ w = 3 ∨ w = 4 ∨ w = 5 ∨ w = 6 by omega) with rfl | rfl | rfl | rfl | rfl | rfl | rfl
      · rw [if_pos (show nI 0 = (0 : Int32) from rfl), if_neg (show ¬ (4 : Int32) ≤ nI 0 by decide), g (by decide), a_trait (T := T) (by omega) (by decide)]
        refine ⟨_, rfl, ?_⟩
        show some (m_state (5 * 0 + i)) = some (L_traits (4 * i + 0))
        rw [show 5 * 0 + i = i by omega, r1, show 4 * i + 0 = 4 * i by omega, t0]
      · rw [if_neg (show ¬ nI 1 = (0 : Int32) by decide), if_pos (show nI 1 = (1 : Int32) from rfl), if_neg (show ¬ (4 : Int32) ≤ nI 1 by decide), g (by decide), a_trait (T := T) (by omega) (by decide)]
        refine ⟨_, rfl, ?_⟩
        show some (m_state (5 * 1 + i)) = some (L_traits (4 * i + 1))
        rw [show 5 * 1 + i = 5 + i by omega, r2, t1]
      · rw [if_neg (show ¬ nI 2 = (0 : Int32) by decide), if_neg (show ¬ nI 2 = (1 : Int32) by decide), if_pos (show nI 2 = (2 : Int32) from rfl), if_neg (show ¬ (4 : Int32) ≤ nI 2 by decide), g (by decide), a_trait (T := T) (by omega) (by decide)]
        refine ⟨_, rfl, ?_⟩
        show some (m_state (5 * 2 + i)) = some (L_traits (4 * i + 2))
        rw [show 5 * 2 + i = 10 + i by omega, r3, t2]
      · rw [if_neg (show ¬ nI 3 = (0 : Int32) by decide), if_neg (show ¬ nI 3 = (1 : Int32) by decide), if_neg (show ¬ nI 3 = (2 : Int32) by decide), if_pos (show nI 3 = (3 : Int32) from rfl), if_neg (show ¬ (4 : Int32) ≤ nI 3 by decide), g (by decide), a_trait (T := T) (by omega) (by decide)]
        refine ⟨_, rfl, ?_⟩
        show some (m_state (5 * 3 + i)) = some (L_traits (4 * i + 3))
        rw [show 5 * 3 + i = 15 + i by omega, r4', t3]
      · rw [if_neg (show ¬ nI 4 = (0 : Int32) by decide), if_neg (show ¬ nI 4 = (1 : Int32) by decide), if_neg (show ¬ nI 4 = (2 : Int32) by decide), if_neg (show ¬ nI 4 = (3 : Int32) by decide), if_pos (show nI 4 = (4 : Int32) from rfl), if_pos (show (4 : Int32) ≤ nI 4 by decide), if_pos (show nI 4 = (4 : Int32) from rfl)]
        rw [show p_X6_strengthOn (0 : Int32) (nI i) m_state = _ from b_str hV hM (by decide) hi]
        rw [show p_X4_trait (nI i) (0 : Int32) L_traits = some (L_traits (4 * i + 0)) from a_trait (T := T) (by omega) (by decide), zbs, show p_X4_trait (nI i) (1 : Int32) L_traits = some (L_traits (4 * i + 1)) from a_trait (T := T) (by omega) (by decide), zbs, show 4 * i + 0 = 4 * i by omega, t0, t1, a_str b1 b2]
        exact ⟨_, rfl, rfl⟩
      · rw [if_neg (show ¬ nI 5 = (0 : Int32) by decide), if_neg (show ¬ nI 5 = (1 : Int32) by decide), if_neg (show ¬ nI 5 = (2 : Int32) by decide), if_neg (show ¬ nI 5 = (3 : Int32) by decide), if_neg (show ¬ nI 5 = (4 : Int32) by decide), if_pos (show nI 5 = (5 : Int32) from rfl), if_pos (show (4 : Int32) ≤ nI 5 by decide), if_neg (show ¬ nI 5 = (4 : Int32) by decide), if_pos (show nI 5 = (5 : Int32) from rfl)]
        rw [a_force hV hA hp (by omega) hi, show p_X6_forceOn (0 : Int32) (nI i) (-4) m_state = _ from b_force hV hM (by decide) hp (by omega) hi]
        exact ⟨_, rfl, rfl⟩
      · rw [if_neg (show ¬ nI 6 = (0 : Int32) by decide), if_neg (show ¬ nI 6 = (1 : Int32) by decide), if_neg (show ¬ nI 6 = (2 : Int32) by decide), if_neg (show ¬ nI 6 = (3 : Int32) by decide), if_neg (show ¬ nI 6 = (4 : Int32) by decide), if_neg (show ¬ nI 6 = (5 : Int32) by decide), if_pos (show nI 6 = (6 : Int32) from rfl), if_pos (show (4 : Int32) ≤ nI 6 by decide), if_neg (show ¬ nI 6 = (4 : Int32) by decide), if_neg (show ¬ nI 6 = (5 : Int32) by decide)]
        rw [z_get_e (10 + i) (by rw [zi10, nI_add]) (by omega) (by decide), zbs, show p_X6_pointOn (0 : Int32) m_state = _ from b_point hM (by decide), zbs, r3, b_far b3 hp]
        unfold p_X4_gap
        rw [show p_X4_trait (nI i) (2 : Int32) L_traits = some (L_traits (4 * i + 2)) from a_trait (T := T) (by omega) (by decide), zbs, t2, a_far b3 hp]
        exact ⟨_, rfl, rfl⟩
    · have no : ∀ n : Nat, n ≤ 6 → ¬ a2 = nI n := fun n hn q => h5 ⟨n, by omega, hn, q⟩
      rw [show p_X6_in a2.toInt64 (0 : Int64) (6 : Int64) = some 0 from h4, zbs, if_pos rfl]
      rw [if_neg (show ¬ a2 = (0 : Int32) from no 0 (by decide)), if_neg (show ¬ a2 = (1 : Int32) from no 1 (by decide)), if_neg (show ¬ a2 = (2 : Int32) from no 2 (by decide)), if_neg (show ¬ a2 = (3 : Int32) from no 3 (by decide)), if_neg (show ¬ a2 = (4 : Int32) from no 4 (by decide)), if_neg (show ¬ a2 = (5 : Int32) from no 5 (by decide)), if_neg (show ¬ a2 = (6 : Int32) from no 6 (by decide))]
      exact ⟨_, rfl, rfl⟩
  · refine ⟨-1, ?_, ?_⟩
    · unfold p_X5_draw; rw [h1, zbs, if_pos rfl]
    · unfold p_X6_draw; rw [h2, zbs, if_pos rfl]
set_option maxHeartbeats 4000000 in
theorem q_comes {L_draws : Int32} {L_foot : Int32} {L_point : Int32} {L_stiff : Int32} {L_bears : Int32} {L_year : Int32} {L_traits : Nat → Int32} {A0_draws : Int32} {A0_foot : Int32} {A0_point : Int32} {A0_stiff : Int32} {A0_bears : Int32} {A0_year : Int32} {A0_traits : Nat → Int32} {A1_draws : Int32} {A1_foot : Int32} {A1_point : Int32} {A1_stiff : Int32} {A1_bears : Int32} {A1_year : Int32} {A1_traits : Nat → Int32} {x_kept : Nat → Int32} {P_length : Int32} {P_bytes : Nat → Int32} {N_size : Int32} {N_years : Nat → Int32} {N_cells : Nat → Int32} {S0_lane : Int32} {S0_size : Int32} {S0_cells : Nat → Int32} {S1_lane : Int32} {S1_size : Int32} {S1_cells : Nat → Int32} {S2_lane : Int32} {S2_size : Int32} {S2_cells : Nat → Int32} {S3_lane : Int32} {S3_size : Int32} {S3_cells : Nat → Int32} {x_textFault : Int32} {x_readFault : Int32} {m_state : Nat → Int32} {m_tape : Nat → Int32} {m_taped : Int32} {m_fault : Int32} {m_cuts : Nat → Int32} {m_letters : Nat → Int32} {m_silent : Int32} {m_seen : Nat → Int32} {m_seenMany : Int32} {m_isKept : Nat → Int32} {m_lanes : Nat → Int32} {m_lengths : Nat → Int32} {m_sheetCells : Nat → Int32} {m_torn : Int32} (T_draws : Int32) (T_foot : Int32) (T_point : Int32) (T_stiff : Int32) (T_bears : Int32) (T_year : Int32) (T_traits : Nat → Int32) (a1 : Int32) (hR : zRel L_draws L_foot L_point L_stiff L_bears L_year L_traits A0_draws A0_foot A0_point A0_stiff A0_bears A0_year A0_traits A1_draws A1_foot A1_point A1_stiff A1_bears A1_year A1_traits x_kept P_length P_bytes N_size N_years N_cells S0_lane S0_size S0_cells S1_lane S1_size S1_cells S2_lane S2_size S2_cells S3_lane S3_size S3_cells x_textFault x_readFault m_state m_tape m_taped m_fault m_cuts m_letters m_silent m_seen m_seenMany m_isKept m_lanes m_lengths m_sheetCells m_torn) : ∃ (oX5 : Int32 × Int32 × Int32 × Int32 × Int32 × Int32 × Int32 × (Nat → Int32)) (oX6 : Int32 × (Nat → Int32)), p_X5_comes a1 L_draws L_foot L_point L_stiff L_bears L_year L_traits T_draws T_foot T_point T_stiff T_bears T_year T_traits = some oX5 ∧ p_X6_comes a1 m_silent m_state = some oX6 ∧ oX5.1 = oX6.1 ∧ zRel L_draws L_foot L_point L_stiff L_bears L_year L_traits A0_draws A0_foot A0_point A0_stiff A0_bears A0_year A0_traits A1_draws A1_foot A1_point A1_stiff A1_bears A1_year A1_traits x_kept P_length P_bytes N_size N_years N_cells S0_lane S0_size S0_cells S1_lane S1_size S1_cells S2_lane S2_size S2_cells S3_lane S3_size S3_cells x_textFault x_readFault oX6.2 m_tape m_taped m_fault m_cuts m_letters m_silent m_seen m_seenMany m_isKept m_lanes m_lengths m_sheetCells m_torn := by
  have hR0 := hR
  obtain ⟨hL, hA0, hA1, hT, hN, hS0, hS1, hS2, hS3, e1, e2, e3, e4, e5⟩ := hR
  subst e3
  obtain ⟨T, pt, yr, ⟨hV, hp, hy, hw⟩, ⟨rfl, rfl, rfl, rfl, rfl, rfl, hA⟩, hM⟩ := hL
  rcases arg_cell a1 with ⟨j, hj, rfl, h1, h2⟩ | ⟨h1, h2, -⟩
  · obtain ⟨a, b, ha⟩ := a_to (n := 60) (yr := yr) hV (zA_ct (b := T_traits) hV.1 hA) hp (by omega) (by decide) hj
    obtain ⟨k, hb⟩ := b_comes (pg := 0) hV (Or.inl rfl) hM hp (by omega) hj
    generalize fa_first (fun i => decide (zps T pt yr i = j)) 61 = w at ha hb
    refine ⟨(zrs w 61, nI (t_d T), nI (t_ft T), a, nI (t_st T), nI (t_be T), b, zct L_traits T_traits), (zrs w 61, zyr (zcp m_state 0 104) 104 (zps T pt yr k) (yr + k)), ?_, ?_, rfl, ⟨T, pt, yr, ⟨hV, hp, hy, hw⟩, ⟨rfl, rfl, rfl, rfl, rfl, rfl, hA⟩, zM_congr hV.1 hM (fun i hi => zyc_out (by omega))⟩, zIm_keep hA0 (fun i hi => zyc_out (by omega)), zIm_keep hA1 (fun i hi => zyc_out (by omega)), hT, hN, hS0, hS1, hS2, hS3, e1, e2, rfl, e4, e5⟩
    · unfold p_X5_comes p_X4_copyFrom
      rw [h1, zbs, if_neg (show ¬ (1 : Int32) = 0 by decide), zbs]
      show (p_X4_yearsTo (nI j) (nI 60) (nI (t_d T)) (nI (t_ft T)) (nI pt) (nI (t_st T)) (nI (t_be T)) (nI yr) (zct L_traits T_traits)).bind _ = _
      rw [ha]
      rfl
    · unfold p_X6_comes
      rw [h2, zbs, if_neg (show ¬ (1 : Int32) = 0 by decide)]
      show (p_X6_comesOn (nI 0) (nI j) (-4) m_state).bind _ = _
      rw [hb]
      rfl
  · refine ⟨(-1, T_draws, T_foot, T_point, T_stiff, T_bears, T_year, T_traits), (-1, m_state), ?_, ?_, rfl, hR0⟩
    · unfold p_X5_comes; rw [h1, zbs, if_pos rfl]
    · unfold p_X6_comes; rw [h2, zbs, if_pos rfl]
set_option maxHeartbeats 4000000 in
theorem q_runs {L_draws : Int32} {L_foot : Int32} {L_point : Int32} {L_stiff : Int32} {L_bears : Int32} {L_year : Int32} {L_traits : Nat → Int32} {A0_draws : Int32} {A0_foot : Int32} {A0_point : Int32} {A0_stiff : Int32} {A0_bears : Int32} {A0_year : Int32} {A0_traits : Nat → Int32} {A1_draws : Int32} {A1_foot : Int32} {A1_point : Int32} {A1_stiff : Int32} {A1_bears : Int32} {A1_year : Int32} {A1_traits : Nat → Int32} {x_kept : Nat → Int32} {P_length : Int32} {P_bytes : Nat → Int32} {N_size : Int32} {N_years : Nat → Int32} {N_cells : Nat → Int32} {S0_lane : Int32} {S0_size : Int32} {S0_cells : Nat → Int32} {S1_lane : Int32} {S1_size : Int32} {S1_cells : Nat → Int32} {S2_lane : Int32} {S2_size : Int32} {S2_cells : Nat → Int32} {S3_lane : Int32} {S3_size : Int32} {S3_cells : Nat → Int32} {x_textFault : Int32} {x_readFault : Int32} {m_state : Nat → Int32} {m_tape : Nat → Int32} {m_taped : Int32} {m_fault : Int32} {m_cuts : Nat → Int32} {m_letters : Nat → Int32} {m_silent : Int32} {m_seen : Nat → Int32} {m_seenMany : Int32} {m_isKept : Nat → Int32} {m_lanes : Nat → Int32} {m_lengths : Nat → Int32} {m_sheetCells : Nat → Int32} {m_torn : Int32} (T_draws : Int32) (T_foot : Int32) (T_point : Int32) (T_stiff : Int32) (T_bears : Int32) (T_year : Int32) (T_traits : Nat → Int32) (m_greatest : Int32) (m_moves : Int32) (m_holders : Int32) (a1 : Int32) (a2 : Int32) (hR : zRel L_draws L_foot L_point L_stiff L_bears L_year L_traits A0_draws A0_foot A0_point A0_stiff A0_bears A0_year A0_traits A1_draws A1_foot A1_point A1_stiff A1_bears A1_year A1_traits x_kept P_length P_bytes N_size N_years N_cells S0_lane S0_size S0_cells S1_lane S1_size S1_cells S2_lane S2_size S2_cells S3_lane S3_size S3_cells x_textFault x_readFault m_state m_tape m_taped m_fault m_cuts m_letters m_silent m_seen m_seenMany m_isKept m_lanes m_lengths m_sheetCells m_torn) : ∃ (oX5 : Int32 × Int32 × Int32 × Int32 × Int32 × Int32 × Int32 × (Nat → Int32)) (oX6 : Int32 × Int32 × Int32 × Int32 × (Nat → Int32)), p_X5_runs a1 a2 L_draws L_foot L_point L_stiff L_bears L_year L_traits T_draws T_foot T_point T_stiff T_bears T_year T_traits = some oX5 ∧ p_X6_runs a1 a2 m_silent m_greatest m_moves m_holders m_state = some oX6 ∧ oX5.1 = oX6.1 ∧ zRel L_draws L_foot L_point L_stiff L_bears L_year L_traits A0_draws A0_foot A0_point A0_stiff A0_bears A0_year A0_traits A1_draws A1_foot A1_point A1_stiff A1_bears A1_year A1_traits x_kept P_length P_bytes N_size N_years N_cells S0_lane S0_size S0_cells S1_lane S1_size S1_cells S2_lane S2_size S2_cells S3_lane S3_size S3_cells x_textFault x_readFault oX6.2.2.2.2 m_tape m_taped m_fault m_cuts m_letters m_silent m_seen m_seenMany m_isKept m_lanes m_lengths m_sheetCells m_torn := by
  have hR0 := hR
  obtain ⟨hL, hA0, hA1, hT, hN, hS0, hS1, hS2, hS3, e1, e2, e3, e4, e5⟩ := hR
  subst e3
  obtain ⟨T, pt, yr, ⟨hV, hp, hy, hw⟩, ⟨rfl, rfl, rfl, rfl, rfl, rfl, hA⟩, hM⟩ := hL
  rcases arg_in a1 (lo := 0) (hi := 60) (by decide) (by decide) with ⟨n, -, hn, rfl, h1, h2⟩ | ⟨h1, h2, -⟩
  · have h1' : p_X5_within (nI n) (0 : Int32) (60 : Int32) = some 1 := h1
    have h2' : p_X6_in (nI n).toInt64 (0 : Int64) (60 : Int64) = some 1 := h2
    have hA' : zA T (zct L_traits T_traits) := zA_ct hV.1 hA
    have hb : p_X6_yearsGo (0 : Int32) (nI n) (-4) m_state = _ := b_go (pg := 0) (n := n) hV (Or.inl rfl) hM hp (by omega) (by omega)
    have hC := zM_cp (b := 104) hV.1 hM
    have M2 := zyr_M hC (zps T pt yr n) (yr + n) hV.1
    have hpn := zps_lt hV (yr := yr) hp n
    have keep : zRel (nI (t_d T)) (nI (t_ft T)) (nI pt) (nI (t_st T)) (nI (t_be T)) (nI yr) L_traits A0_draws A0_foot A0_point A0_stiff A0_bears A0_year A0_traits A1_draws A1_foot A1_point A1_stiff A1_bears A1_year A1_traits x_kept P_length P_bytes N_size N_years N_cells S0_lane S0_size S0_cells S1_lane S1_size S1_cells S2_lane S2_size S2_cells S3_lane S3_size S3_cells x_textFault x_readFault (zyr (zcp m_state 0 104) 104 (zps T pt yr n) (yr + n)) m_tape m_taped m_fault m_cuts m_letters (-4) m_seen m_seenMany m_isKept m_lanes m_lengths m_sheetCells m_torn := ⟨⟨T, pt, yr, ⟨hV, hp, hy, hw⟩, ⟨rfl, rfl, rfl, rfl, rfl, rfl, hA⟩, zM_congr hV.1 hM (fun i hi => zyc_out (by omega))⟩, zIm_keep hA0 (fun i hi => zyc_out (by omega)), zIm_keep hA1 (fun i hi => zyc_out (by omega)), hT, hN, hS0, hS1, hS2, hS3, e1, e2, rfl, e4, e5⟩
    have c5 : ∀ r a b, p_X5_runs (nI n) a2 (nI (t_d T)) (nI (t_ft T)) (nI pt) (nI (t_st T)) (nI (t_be T)) (nI yr) L_traits T_draws T_foot T_point T_stiff T_bears T_year T_traits = some (r, nI (t_d T), nI (t_ft T), a, nI (t_st T), nI (t_be T), b, zct L_traits T_traits) → p_X6_runs (nI n) a2 (-4) m_greatest m_moves m_holders m_state = some (r, nI (zgl T pt yr n), nI (zmv T pt yr n), zhs T pt yr n, zyr (zcp m_state 0 104) 104 (zps T pt yr n) (yr + n)) → ∃ (oX5 : Int32 × Int32 × Int32 × Int32 × Int32 × Int32 × Int32 × (Nat → Int32)) (oX6 : Int32 × Int32 × Int32 × Int32 × (Nat → Int32)), p_X5_runs (nI n) a2 (nI (t_d T)) (nI (t_ft T)) (nI pt) (nI (t_st T)) (nI (t_be T)) (nI yr) L_traits T_draws T_foot T_point T_stiff T_bears T_year T_traits = some oX5 ∧ p_X6_runs (nI n) a2 (-4) m_greatest m_moves m_holders m_state = some oX6 ∧ oX5.1 = oX6.1 ∧ zRel (nI (t_d T)) (nI (t_ft T)) (nI pt) (nI (t_st T)) (nI (t_be T)) (nI yr) L_traits A0_draws A0_foot A0_point A0_stiff A0_bears A0_year A0_traits A1_draws A1_foot A1_point A1_stiff A1_bears A1_year A1_traits x_kept P_length P_bytes N_size N_years N_cells S0_lane S0_size S0_cells S1_lane S1_size S1_cells S2_lane S2_size S2_cells S3_lane S3_size S3_cells x_textFault x_readFault oX6.2.2.2.2 m_tape m_taped m_fault m_cuts m_letters (-4) m_seen m_seenMany m_isKept m_lanes m_lengths m_sheetCells m_torn := fun r a b q1 q2 => ⟨_, _, q1, q2, rfl, keep⟩
    rcases arg_in a2 (lo := 0) (hi := 4) (by decide) (by decide) with ⟨w, -, hw4, rfl, -, h4⟩ | ⟨-, h4, h5⟩
    · have h4' : p_X6_in (nI w).toInt64 (0 : Int64) (4 : Int64) = some 1 := h4
      rcases (show w = 0 ∨ w = 1 ∨ w = 2 ∨ w = 3 ∨ w = 4 by omega) with rfl | rfl | rfl | rfl | rfl
      · refine c5 (nI (zps T pt yr n)) (nI (zps T pt yr n)) (nI (yr + n)) ?_ ?_
        · unfold p_X5_runs p_X4_copyFrom
          rw [h1', zbs, if_neg (show ¬ (1 : Int32) = 0 by decide), zbs, if_pos (show nI 0 = (0 : Int32) from rfl)]
          show (p_X4_passYears (nI n) (nI (t_d T)) (nI (t_ft T)) (nI pt) (nI (t_st T)) (nI (t_be T)) (nI yr) (zct L_traits T_traits)).bind _ = _
          rw [a_years hV hA' hp (by omega) (by omega)]
          rfl
        · unfold p_X6_runs
          rw [h2', zbs, if_neg (show ¬ (1 : Int32) = 0 by decide), h4', zbs, if_neg (show ¬ (1 : Int32) = 0 by decide), hb, zbs, if_pos (show nI 0 = (0 : Int32) from rfl)]
          show (p_X6_pointOn (nI 104) (zyr (zcp m_state 0 104) 104 (zps T pt yr n) (yr + n))).bind _ = _
          rw [b_point M2 (by decide)]
          rfl
      · refine c5 (nI (zln_ T (zps T pt yr n))) (nI (zps T pt yr n)) (nI (yr + n)) ?_ ?_
        · unfold p_X5_runs p_X4_copyFrom
          rw [h1', zbs, if_neg (show ¬ (1 : Int32) = 0 by decide), zbs, if_neg (show ¬ nI 1 = (0 : Int32) by decide), if_pos (show nI 1 = (1 : Int32) from rfl)]
          show (p_X4_passYears (nI n) (nI (t_d T)) (nI (t_ft T)) (nI pt) (nI (t_st T)) (nI (t_be T)) (nI yr) (zct L_traits T_traits)).bind _ = _
          rw [a_years hV hA' hp (by omega) (by omega), zbs]
          show (p_X4_lean (nI (t_ft T)) (nI (zps T pt yr n))).bind _ = _
          rw [a_lean hV hpn]
          rfl
        · unfold p_X6_runs
          rw [h2', zbs, if_neg (show ¬ (1 : Int32) = 0 by decide), h4', zbs, if_neg (show ¬ (1 : Int32) = 0 by decide), hb, zbs, if_neg (show ¬ nI 1 = (0 : Int32) by decide), if_pos (show nI 1 = (1 : Int32) from rfl)]
          show (p_X6_leanOn (nI 104) (zyr (zcp m_state 0 104) 104 (zps T pt yr n) (yr + n))).bind _ = _
          rw [b_lean hV M2 (by decide) hpn]
          rfl
      · refine c5 (nI (zgl T pt yr n)) (nI (zps T pt yr n)) (nI (yr + n)) ?_ ?_
        · unfold p_X5_runs p_X4_copyFrom
          rw [h1', zbs, if_neg (show ¬ (1 : Int32) = 0 by decide), zbs, if_neg (show ¬ nI 2 = (0 : Int32) by decide), if_neg (show ¬ nI 2 = (1 : Int32) by decide), if_pos (show nI 2 = (2 : Int32) from rfl)]
          show (p_X4_greatestLean (nI n) (nI (t_d T)) (nI (t_ft T)) (nI pt) (nI (t_st T)) (nI (t_be T)) (nI yr) (zct L_traits T_traits)).bind _ = _
          rw [a_glean hV hA' hp (by omega) (by omega)]
          rfl
        · unfold p_X6_runs
          rw [h2', zbs, if_neg (show ¬ (1 : Int32) = 0 by decide), h4', zbs, if_neg (show ¬ (1 : Int32) = 0 by decide), hb, zbs, if_neg (show ¬ nI 2 = (0 : Int32) by decide), if_neg (show ¬ nI 2 = (1 : Int32) by decide), if_pos (show nI 2 = (2 : Int32) from rfl)]
      · refine c5 (nI (zmv T pt yr n)) (nI (zps T pt yr n)) (nI (yr + n)) ?_ ?_
        · unfold p_X5_runs p_X4_copyFrom
          rw [h1', zbs, if_neg (show ¬ (1 : Int32) = 0 by decide), zbs, if_neg (show ¬ nI 3 = (0 : Int32) by decide), if_neg (show ¬ nI 3 = (1 : Int32) by decide), if_neg (show ¬ nI 3 = (2 : Int32) by decide), if_pos (show nI 3 = (3 : Int32) from rfl)]
          show (p_X4_movesIn (nI n) (nI (t_d T)) (nI (t_ft T)) (nI pt) (nI (t_st T)) (nI (t_be T)) (nI yr) (zct L_traits T_traits)).bind _ = _
          rw [a_moves hV hA' hp (by omega) (by omega)]
          rfl
        · unfold p_X6_runs
          rw [h2', zbs, if_neg (show ¬ (1 : Int32) = 0 by decide), h4', zbs, if_neg (show ¬ (1 : Int32) = 0 by decide), hb, zbs, if_neg (show ¬ nI 3 = (0 : Int32) by decide), if_neg (show ¬ nI 3 = (1 : Int32) by decide), if_neg (show ¬ nI 3 = (2 : Int32) by decide), if_pos (show nI 3 = (3 : Int32) from rfl)]
      · refine c5 (zhs T pt yr n) (nI (zps T pt yr n)) (nI (yr + n)) ?_ ?_
        · unfold p_X5_runs p_X4_copyFrom
          rw [h1', zbs, if_neg (show ¬ (1 : Int32) = 0 by decide), zbs, if_neg (show ¬ nI 4 = (0 : Int32) by decide), if_neg (show ¬ nI 4 = (1 : Int32) by decide), if_neg (show ¬ nI 4 = (2 : Int32) by decide), if_neg (show ¬ nI 4 = (3 : Int32) by decide), if_pos (show nI 4 = (4 : Int32) from rfl)]
          show (p_X4_holdersIn (nI n) (nI (t_d T)) (nI (t_ft T)) (nI pt) (nI (t_st T)) (nI (t_be T)) (nI yr) (zct L_traits T_traits)).bind _ = _
          rw [a_holders hV hA' hp (by omega) (by omega)]
          rfl
        · unfold p_X6_runs
          rw [h2', zbs, if_neg (show ¬ (1 : Int32) = 0 by decide), h4', zbs, if_neg (show ¬ (1 : Int32) = 0 by decide), hb, zbs, if_neg (show ¬ nI 4 = (0 : Int32) by decide), if_neg (show ¬ nI 4 = (1 : Int32) by decide), if_neg (show ¬ nI 4 = (2 : Int32) by decide), if_neg (show ¬ nI 4 = (3 : Int32) by decide)]
    · have no : ∀ n : Nat, n ≤ 4 → ¬ a2 = nI n := fun n hn q => h5 ⟨n, by omega, hn, q⟩
      have h4' : p_X6_in a2.toInt64 (0 : Int64) (4 : Int64) = some 0 := h4
      refine ⟨(-1, nI (t_d T), nI (t_ft T), nI pt, nI (t_st T), nI (t_be T), nI yr, zct L_traits T_traits), (-1, m_greatest, m_moves, m_holders, m_state), ?_, ?_, rfl, hR0⟩
      · unfold p_X5_runs p_X4_copyFrom
        rw [h1', zbs, if_neg (show ¬ (1 : Int32) = 0 by decide), zbs, if_neg (show ¬ a2 = (0 : Int32) from no 0 (by decide)), if_neg (show ¬ a2 = (1 : Int32) from no 1 (by decide)), if_neg (show ¬ a2 = (2 : Int32) from no 2 (by decide)), if_neg (show ¬ a2 = (3 : Int32) from no 3 (by decide)), if_neg (show ¬ a2 = (4 : Int32) from no 4 (by decide))]
        rfl
      · unfold p_X6_runs
        rw [h2', zbs, if_neg (show ¬ (1 : Int32) = 0 by decide), h4', zbs, if_pos rfl]
  · have h1' : p_X5_within a1 (0 : Int32) (60 : Int32) = some 0 := h1
    have h2' : p_X6_in a1.toInt64 (0 : Int64) (60 : Int64) = some 0 := h2
    refine ⟨(-1, T_draws, T_foot, T_point, T_stiff, T_bears, T_year, T_traits), (-1, m_greatest, m_moves, m_holders, m_state), ?_, ?_, rfl, hR0⟩
    · unfold p_X5_runs; rw [h1', zbs, if_pos rfl]
    · unfold p_X6_runs; rw [h2', zbs, if_pos rfl]
set_option maxHeartbeats 4000000 in
theorem q_falls {L_draws : Int32} {L_foot : Int32} {L_point : Int32} {L_stiff : Int32} {L_bears : Int32} {L_year : Int32} {L_traits : Nat → Int32} {A0_draws : Int32} {A0_foot : Int32} {A0_point : Int32} {A0_stiff : Int32} {A0_bears : Int32} {A0_year : Int32} {A0_traits : Nat → Int32} {A1_draws : Int32} {A1_foot : Int32} {A1_point : Int32} {A1_stiff : Int32} {A1_bears : Int32} {A1_year : Int32} {A1_traits : Nat → Int32} {x_kept : Nat → Int32} {P_length : Int32} {P_bytes : Nat → Int32} {N_size : Int32} {N_years : Nat → Int32} {N_cells : Nat → Int32} {S0_lane : Int32} {S0_size : Int32} {S0_cells : Nat → Int32} {S1_lane : Int32} {S1_size : Int32} {S1_cells : Nat → Int32} {S2_lane : Int32} {S2_size : Int32} {S2_cells : Nat → Int32} {S3_lane : Int32} {S3_size : Int32} {S3_cells : Nat → Int32} {x_textFault : Int32} {x_readFault : Int32} {m_state : Nat → Int32} {m_tape : Nat → Int32} {m_taped : Int32} {m_fault : Int32} {m_cuts : Nat → Int32} {m_letters : Nat → Int32} {m_silent : Int32} {m_seen : Nat → Int32} {m_seenMany : Int32} {m_isKept : Nat → Int32} {m_lanes : Nat → Int32} {m_lengths : Nat → Int32} {m_sheetCells : Nat → Int32} {m_torn : Int32} (T_traits : Nat → Int32) (hR : zRel L_draws L_foot L_point L_stiff L_bears L_year L_traits A0_draws A0_foot A0_point A0_stiff A0_bears A0_year A0_traits A1_draws A1_foot A1_point A1_stiff A1_bears A1_year A1_traits x_kept P_length P_bytes N_size N_years N_cells S0_lane S0_size S0_cells S1_lane S1_size S1_cells S2_lane S2_size S2_cells S3_lane S3_size S3_cells x_textFault x_readFault m_state m_tape m_taped m_fault m_cuts m_letters m_silent m_seen m_seenMany m_isKept m_lanes m_lengths m_sheetCells m_torn) : ∃ (oX5 : Int32 × Int32 × Int32 × Int32 × Int32 × Int32 × Int32 × (Nat → Int32)) (oX6 : Int32 × (Nat → Int32)), p_X5_falls L_draws L_foot L_point L_stiff L_bears L_year L_traits T_traits = some oX5 ∧ p_X6_falls m_silent m_state = some oX6 ∧ oX5.1 = oX6.1 ∧ zRel L_draws L_foot L_point L_stiff L_bears L_year L_traits A0_draws A0_foot A0_point A0_stiff A0_bears A0_year A0_traits A1_draws A1_foot A1_point A1_stiff A1_bears A1_year A1_traits x_kept P_length P_bytes N_size N_years N_cells S0_lane S0_size S0_cells S1_lane S1_size S1_cells S2_lane S2_size S2_cells S3_lane S3_size S3_cells x_textFault x_readFault oX6.2 m_tape m_taped m_fault m_cuts m_letters m_silent m_seen m_seenMany m_isKept m_lanes m_lengths m_sheetCells m_torn := by
  have hR0 := hR
  obtain ⟨hL, hA0, hA1, hT, hN, hS0, hS1, hS2, hS3, e1, e2, e3, e4, e5⟩ := hR
  subst e3
  obtain ⟨T, pt, yr, ⟨hV, hp, hy, hw⟩, ⟨rfl, rfl, rfl, rfl, rfl, rfl, hA⟩, hM⟩ := hL
  obtain ⟨a, b, ha⟩ := a_fall (yr := yr) hV (zA_ct (b := T_traits) hV.1 hA) hp (by omega)
  obtain ⟨k, hb⟩ := b_fall hV hM hp (by omega)
  generalize fa_first (zfl T pt yr) 61 = w at ha hb
  refine ⟨(zrs w 61, nI (t_d T), nI (t_ft T), a, nI (t_st T), nI (t_be T), b, zct L_traits T_traits), (zrs w 61, zyr (zcp m_state 0 104) 104 (zps T pt yr k) (yr + k)), ?_, hb, rfl, ⟨T, pt, yr, ⟨hV, hp, hy, hw⟩, ⟨rfl, rfl, rfl, rfl, rfl, rfl, hA⟩, zM_congr hV.1 hM (fun i hi => zyc_out (by omega))⟩, zIm_keep hA0 (fun i hi => zyc_out (by omega)), zIm_keep hA1 (fun i hi => zyc_out (by omega)), hT, hN, hS0, hS1, hS2, hS3, e1, e2, rfl, e4, e5⟩
  unfold p_X5_falls p_X4_copyFrom
  rw [zbs]
  show (p_X4_yearsToFall (nI 60) (nI (t_d T)) (nI (t_ft T)) (nI pt) (nI (t_st T)) (nI (t_be T)) (nI yr) (zct L_traits T_traits)).bind _ = _
  rw [ha]
  rfl
