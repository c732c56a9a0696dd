set_option maxHeartbeats 4000000 in
theorem q_luck {L_draws : Int32} {L_foot : Int32} {L_point : Int32} {L_stiff : Int32} {L_bears : Int32} {L_year : Int32} {L_traits : Nat → Int32} {A0_draws : Int32} {A0_foot : Int32} {A0_point : Int32} {A0_stiff : Int32} {A0_bears : Int32} {A0_year : Int32} {A0_traits : Nat → Int32} {A1_draws : Int32} {A1_foot : Int32} {A1_point : Int32} {A1_stiff : Int32} {A1_bears : Int32} {A1_year : Int32} {A1_traits : Nat → Int32} {x_kept : Nat → Int32} {P_length : Int32} {P_bytes : Nat → Int32} {N_size : Int32} {N_years : Nat → Int32} {N_cells : Nat → Int32} {S0_lane : Int32} {S0_size : Int32} {S0_cells : Nat → Int32} {S1_lane : Int32} {S1_size : Int32} {S1_cells : Nat → Int32} {S2_lane : Int32} {S2_size : Int32} {S2_cells : Nat → Int32} {S3_lane : Int32} {S3_size : Int32} {S3_cells : Nat → Int32} {x_textFault : Int32} {x_readFault : Int32} {m_state : Nat → Int32} {m_tape : Nat → Int32} {m_taped : Int32} {m_fault : Int32} {m_cuts : Nat → Int32} {m_letters : Nat → Int32} {m_silent : Int32} {m_seen : Nat → Int32} {m_seenMany : Int32} {m_isKept : Nat → Int32} {m_lanes : Nat → Int32} {m_lengths : Nat → Int32} {m_sheetCells : Nat → Int32} {m_torn : Int32} (T_draws : Int32) (T_foot : Int32) (T_point : Int32) (T_stiff : Int32) (T_bears : Int32) (T_year : Int32) (T_traits : Nat → Int32) (D_whole : Int64) (D_weights : Nat → Int64) (D_later : Nat → Int64) (a1 : Int32) (a2 : Int32) (a3 : Int32) (a4 : Int32) (hR : zRel L_draws L_foot L_point L_stiff L_bears L_year L_traits A0_draws A0_foot A0_point A0_stiff A0_bears A0_year A0_traits A1_draws A1_foot A1_point A1_stiff A1_bears A1_year A1_traits x_kept P_length P_bytes N_size N_years N_cells S0_lane S0_size S0_cells S1_lane S1_size S1_cells S2_lane S2_size S2_cells S3_lane S3_size S3_cells x_textFault x_readFault m_state m_tape m_taped m_fault m_cuts m_letters m_silent m_seen m_seenMany m_isKept m_lanes m_lengths m_sheetCells m_torn) : ∃ (oX5 : Int64 × Int32 × Int32 × Int32 × Int32 × Int32 × Int32 × (Nat → Int32) × Int64 × (Nat → Int64) × (Nat → Int64)) (oX6 : Int64 × (Nat → Int32)), p_X5_luck a1 a2 a3 a4 L_draws L_foot L_point L_stiff L_bears L_year L_traits T_draws T_foot T_point T_stiff T_bears T_year T_traits D_whole D_weights D_later = some oX5 ∧ p_X6_luck a1 a2 a3 a4 m_silent m_state = some oX6 ∧ oX5.1 = oX6.1 ∧ zRel L_draws L_foot L_point L_stiff L_bears L_year L_traits A0_draws A0_foot A0_point A0_stiff A0_bears A0_year A0_traits A1_draws A1_foot A1_point A1_stiff A1_bears A1_year A1_traits x_kept P_length P_bytes N_size N_years N_cells S0_lane S0_size S0_cells S1_lane S1_size S1_cells S2_lane S2_size S2_cells S3_lane S3_size S3_cells x_textFault x_readFault oX6.2 m_tape m_taped m_fault m_cuts m_letters m_silent m_seen m_seenMany m_isKept m_lanes m_lengths m_sheetCells m_torn := by
  have hR0 := hR
  obtain ⟨hL, hA0, hA1, hT, hN, hS0, hS1, hS2, hS3, e1, e2, e3, e4, e5⟩ := hR
  subst e3
  have hL0 := hL
  obtain ⟨T, pt, yr, ⟨hV, hp, hy, hw⟩, ⟨rfl, rfl, rfl, rfl, rfl, rfl, hA⟩, hM⟩ := hL
  have hd := hV.1
  have bad : ∀ _u : Unit, p_X5_luck a1 a2 a3 a4 (nI (t_d T)) (nI (t_ft T)) (nI pt) (nI (t_st T)) (nI (t_be T)) (nI yr) L_traits T_draws T_foot T_point T_stiff T_bears T_year T_traits D_whole D_weights D_later = some (-1, T_draws, T_foot, T_point, T_stiff, T_bears, T_year, T_traits, D_whole, D_weights, D_later) → p_X6_luck a1 a2 a3 a4 (-4) m_state = some (-1, m_state) → ∃ (oX5 : Int64 × Int32 × Int32 × Int32 × Int32 × Int32 × Int32 × (Nat → Int32) × Int64 × (Nat → Int64) × (Nat → Int64)) (oX6 : Int64 × (Nat → Int32)), p_X5_luck a1 a2 a3 a4 (nI (t_d T)) (nI (t_ft T)) (nI pt) (nI (t_st T)) (nI (t_be T)) (nI yr) L_traits T_draws T_foot T_point T_stiff T_bears T_year T_traits D_whole D_weights D_later = some oX5 ∧ p_X6_luck a1 a2 a3 a4 (-4) m_state = some oX6 ∧ oX5.1 = oX6.1 ∧ zRel (nI (t_d T)) (nI (t_ft T)) (nI pt) (nI (t_st T)) (nI (t_be T)) (nI yr) L_traits A0_draws A0_foot A0_point A0_stiff A0_bears A0_year A0_traits A1_draws A1_foot A1_point A1_stiff A1_bears A1_year A1_traits x_kept P_length P_bytes N_size N_years N_cells S0_lane S0_size S0_cells S1_lane S1_size S1_cells S2_lane S2_size S2_cells S3_lane S3_size S3_cells x_textFault x_readFault oX6.2 m_tape m_taped m_fault m_cuts m_letters (-4) m_seen m_seenMany m_isKept m_lanes m_lengths m_sheetCells m_torn := fun _ q1 q2 => ⟨_, _, q1, q2, rfl, hR0⟩
  rcases arg_in a1 (lo := 0) (hi := 10) (by decide) (by decide) with ⟨v, -, hv, rfl, h1, h2⟩ | ⟨h1, h2, -⟩
  · have h1' : p_X5_within (nI v) (0 : Int32) (10 : Int32) = some 1 := h1
    have h2' : p_X6_in (nI v).toInt64 (0 : Int64) (10 : Int64) = some 1 := h2
    rcases arg_cell a2 with ⟨c, hc, rfl, h3, h4⟩ | ⟨h3, h4, -⟩
    · rcases arg_in a3 (lo := 0) (hi := 8) (by decide) (by decide) with ⟨n, -, hn, rfl, h5, h6⟩ | ⟨h5, h6, -⟩
      · have h5' : p_X5_within (nI n) (0 : Int32) (8 : Int32) = some 1 := h5
        have h6' : p_X6_in (nI n).toInt64 (0 : Int64) (8 : Int64) = some 1 := h6
        rcases arg_half a4 with ⟨w, hw1, rfl, h7, h8⟩ | ⟨h7, h8⟩
        · obtain ⟨o, ho, o1, o2⟩ := a_spread hV (zA_ct (b := T_traits) hd hA) hp hy hv hn D_weights D_later
          obtain ⟨r, hr, r1, hlo⟩ := b_calm hV hM hp hy hv hn (nI c) (fun p => if c = p then 1 else 0) (Or.inr ⟨c, hc, rfl, rfl⟩)
          have hpow : 10 ^ n ≤ 10 ^ 8 := Nat.pow_le_pow_right (by decide) hn
          have hpos : 0 < 10 ^ n := Nat.pow_pos (by decide)
          have hWc := zWn_le hV hp yr hv n hc
          have hsum : zsm (fun s => zod v s n * (if c = zpr T pt yr s n then 1 else 0)) (2 ^ n) = zWn T pt yr v n c := by
            refine (zBx_eq hV hp yr v n (fun p => if c = p then 1 else 0)).trans ?_
            show zsm (fun j => zWn T pt yr v n j * (if c = j then 1 else 0)) 100 = _
            rw [zsm_congr (g := fun j => (if c = j then 1 else 0) * zWn T pt yr v n j) 100 (fun i _ => Nat.mul_comm _ _), zsm_delta, if_pos hc, Nat.one_mul]
          rw [hsum] at r1
          obtain ⟨x, p5, p6⟩ := part_low (a := zWn T pt yr v n c) (b := 10 ^ n) (by omega) (by omega) hpos (nI w)
          refine ⟨(x, nI (t_d T), nI (t_ft T), o.2.2.2.1, nI (t_st T), nI (t_be T), o.2.2.2.2, zct L_traits T_traits, o.1, o.2.1, o.2.2.1), (x, r.2), ?_, ?_, rfl, zLo_Pg hlo hL0, zLo_I1 hlo hA0, zLo_I2 hlo hA1, hT, hN, hS0, hS1, hS2, hS3, e1, e2, rfl, e4, e5⟩
          · unfold p_X5_luck p_X4_copyFrom
            rw [h1', zbs, if_neg z1n0, h3, zbs, if_neg z1n0, h5', zbs, if_neg z1n0, h7, zbs, if_neg z1n0, zbs]
            show (p_X0_spread (nI v) (nI n) D_weights D_later (nI (t_d T)) (nI (t_ft T)) (nI pt) (nI (t_st T)) (nI (t_be T)) (nI yr) (zct L_traits T_traits)).bind _ = _
            rw [ho, zbs, z_get_n hc (by decide), zbs, o2 c hc]
            have p5' : p_X5_part (lN (zWn T pt yr v n c)) o.1 (nI w) = some x := by rw [o1]; exact p5
            rw [p5']
            rfl
          · unfold p_X6_luck p_X6_byCalm
            rw [h2', zbs, if_neg z1n0, h4, zbs, if_neg z1n0, h6', zbs, if_neg z1n0, h8, zbs, if_neg z1n0, b_down hn, zbs, hr, zbs, r1, p6]
            rfl
        · refine bad () ?_ ?_
          · unfold p_X5_luck; rw [h1', zbs, if_neg z1n0, h3, zbs, if_neg z1n0, h5', zbs, if_neg z1n0, h7, zbs, if_pos rfl]
          · unfold p_X6_luck; rw [h2', zbs, if_neg z1n0, h4, zbs, if_neg z1n0, h6', zbs, if_neg z1n0, h8, zbs, if_pos rfl]
      · have h5' : p_X5_within a3 (0 : Int32) (8 : Int32) = some 0 := h5
        have h6' : p_X6_in a3.toInt64 (0 : Int64) (8 : Int64) = some 0 := h6
        refine bad () ?_ ?_
        · unfold p_X5_luck; rw [h1', zbs, if_neg z1n0, h3, zbs, if_neg z1n0, h5', zbs, if_pos rfl]
        · unfold p_X6_luck; rw [h2', zbs, if_neg z1n0, h4, zbs, if_neg z1n0, h6', zbs, if_pos rfl]
    · refine bad () ?_ ?_
      · unfold p_X5_luck; rw [h1', zbs, if_neg z1n0, h3, zbs, if_pos rfl]
      · unfold p_X6_luck; rw [h2', zbs, if_neg z1n0, h4, zbs, if_pos rfl]
  · have h1' : p_X5_within a1 (0 : Int32) (10 : Int32) = some 0 := h1
    have h2' : p_X6_in a1.toInt64 (0 : Int64) (10 : Int64) = some 0 := h2
    refine bad () ?_ ?_
    · unfold p_X5_luck; rw [h1', zbs, if_pos rfl]
    · unfold p_X6_luck; rw [h2', zbs, if_pos rfl]
set_option maxHeartbeats 4000000 in
theorem q_mean {L_draws : Int32} {L_foot : Int32} {L_point : Int32} {L_stiff : Int32} {L_bears : Int32} {L_year : Int32} {L_traits : Nat → Int32} {A0_draws : Int32} {A0_foot : Int32} {A0_point : Int32} {A0_stiff : Int32} {A0_bears : Int32} {A0_year : Int32} {A0_traits : Nat → Int32} {A1_draws : Int32} {A1_foot : Int32} {A1_point : Int32} {A1_stiff : Int32} {A1_bears : Int32} {A1_year : Int32} {A1_traits : Nat → Int32} {x_kept : Nat → Int32} {P_length : Int32} {P_bytes : Nat → Int32} {N_size : Int32} {N_years : Nat → Int32} {N_cells : Nat → Int32} {S0_lane : Int32} {S0_size : Int32} {S0_cells : Nat → Int32} {S1_lane : Int32} {S1_size : Int32} {S1_cells : Nat → Int32} {S2_lane : Int32} {S2_size : Int32} {S2_cells : Nat → Int32} {S3_lane : Int32} {S3_size : Int32} {S3_cells : Nat → Int32} {x_textFault : Int32} {x_readFault : Int32} {m_state : Nat → Int32} {m_tape : Nat → Int32} {m_taped : Int32} {m_fault : Int32} {m_cuts : Nat → Int32} {m_letters : Nat → Int32} {m_silent : Int32} {m_seen : Nat → Int32} {m_seenMany : Int32} {m_isKept : Nat → Int32} {m_lanes : Nat → Int32} {m_lengths : Nat → Int32} {m_sheetCells : Nat → Int32} {m_torn : Int32} (T_draws : Int32) (T_foot : Int32) (T_point : Int32) (T_stiff : Int32) (T_bears : Int32) (T_year : Int32) (T_traits : Nat → Int32) (D_whole : Int64) (D_weights : Nat → Int64) (D_later : Nat → Int64) (a1 : Int32) (a2 : Int32) (a3 : Int32) (hR : zRel L_draws L_foot L_point L_stiff L_bears L_year L_traits A0_draws A0_foot A0_point A0_stiff A0_bears A0_year A0_traits A1_draws A1_foot A1_point A1_stiff A1_bears A1_year A1_traits x_kept P_length P_bytes N_size N_years N_cells S0_lane S0_size S0_cells S1_lane S1_size S1_cells S2_lane S2_size S2_cells S3_lane S3_size S3_cells x_textFault x_readFault m_state m_tape m_taped m_fault m_cuts m_letters m_silent m_seen m_seenMany m_isKept m_lanes m_lengths m_sheetCells m_torn) : ∃ (oX5 : Int64 × Int32 × Int32 × Int32 × Int32 × Int32 × Int32 × (Nat → Int32) × Int64 × (Nat → Int64) × (Nat → Int64)) (oX6 : Int64 × (Nat → Int32)), p_X5_mean a1 a2 a3 L_draws L_foot L_point L_stiff L_bears L_year L_traits T_draws T_foot T_point T_stiff T_bears T_year T_traits D_whole D_weights D_later = some oX5 ∧ p_X6_mean a1 a2 a3 m_silent m_state = some oX6 ∧ oX5.1 = oX6.1 ∧ zRel L_draws L_foot L_point L_stiff L_bears L_year L_traits A0_draws A0_foot A0_point A0_stiff A0_bears A0_year A0_traits A1_draws A1_foot A1_point A1_stiff A1_bears A1_year A1_traits x_kept P_length P_bytes N_size N_years N_cells S0_lane S0_size S0_cells S1_lane S1_size S1_cells S2_lane S2_size S2_cells S3_lane S3_size S3_cells x_textFault x_readFault oX6.2 m_tape m_taped m_fault m_cuts m_letters m_silent m_seen m_seenMany m_isKept m_lanes m_lengths m_sheetCells m_torn := by
  have hR0 := hR
  obtain ⟨hL, hA0, hA1, hT, hN, hS0, hS1, hS2, hS3, e1, e2, e3, e4, e5⟩ := hR
  subst e3
  have hL0 := hL
  obtain ⟨T, pt, yr, ⟨hV, hp, hy, hw⟩, ⟨rfl, rfl, rfl, rfl, rfl, rfl, hA⟩, hM⟩ := hL
  have hd := hV.1
  rcases arg_in a1 (lo := 0) (hi := 10) (by decide) (by decide) with ⟨v, -, hv, rfl, h1, h2⟩ | ⟨h1, h2, -⟩
  · have h1' : p_X5_within (nI v) (0 : Int32) (10 : Int32) = some 1 := h1
    have h2' : p_X6_in (nI v).toInt64 (0 : Int64) (10 : Int64) = some 1 := h2
    rcases arg_in a2 (lo := 0) (hi := 8) (by decide) (by decide) with ⟨n, -, hn, rfl, h5, h6⟩ | ⟨h5, h6, -⟩
    · have h5' : p_X5_within (nI n) (0 : Int32) (8 : Int32) = some 1 := h5
      have h6' : p_X6_in (nI n).toInt64 (0 : Int64) (8 : Int64) = some 1 := h6
      rcases arg_half a3 with ⟨w, hw1, rfl, h7, h8⟩ | ⟨h7, h8⟩
      · obtain ⟨o, ho, o1, o2⟩ := a_spread hV (zA_ct (b := T_traits) hd hA) hp hy hv hn D_weights D_later
        obtain ⟨r, hr, r1, hlo⟩ := b_calm hV hM hp hy hv hn (-4) (zln_ T) (Or.inl ⟨rfl, rfl⟩)
        have hpow : 10 ^ n ≤ 10 ^ 8 := Nat.pow_le_pow_right (by decide) hn
        have hpos : 0 < 10 ^ n := Nat.pow_pos (by decide)
        have hE := zEx_le hV hp yr hv n 18 (g := zln_ T) (fun c hc => zfar_le hc hV.2.1)
        rw [zBx_eq hV hp yr v n] at r1
        have ht : p_X0_leanTotal (nI (t_ft T)) o.2.1 = some (lN (zEx T pt yr v n (zln_ T))) := a_ltot o2 hV.2.1
        obtain ⟨x, p5, p6⟩ := part_low (a := zEx T pt yr v n (zln_ T)) (b := 10 ^ n) (by omega) (by omega) hpos (nI w)
        refine ⟨(x, nI (t_d T), nI (t_ft T), o.2.2.2.1, nI (t_st T), nI (t_be T), o.2.2.2.2, zct L_traits T_traits, o.1, o.2.1, o.2.2.1), (x, r.2), ?_, ?_, rfl, zLo_Pg hlo hL0, zLo_I1 hlo hA0, zLo_I2 hlo hA1, hT, hN, hS0, hS1, hS2, hS3, e1, e2, rfl, e4, e5⟩
        · unfold p_X5_mean p_X4_copyFrom
          rw [h1', zbs, if_neg z1n0, h5', zbs, if_neg z1n0, h7, zbs, if_neg z1n0, zbs]
          show (p_X0_spread (nI v) (nI n) D_weights D_later (nI (t_d T)) (nI (t_ft T)) (nI pt) (nI (t_st T)) (nI (t_be T)) (nI yr) (zct L_traits T_traits)).bind _ = _
          rw [ho, zbs, ht, zbs]
          have p5' : p_X5_part (lN (zEx T pt yr v n (zln_ T))) o.1 (nI w) = some x := by rw [o1]; exact p5
          rw [p5']
          rfl
        · unfold p_X6_mean p_X6_byCalm
          rw [h2', zbs, if_neg z1n0, h6', zbs, if_neg z1n0, h8, zbs, if_neg z1n0, b_down hn, zbs, hr, zbs, r1, p6]
          rfl
      · refine ⟨(-1, T_draws, T_foot, T_point, T_stiff, T_bears, T_year, T_traits, D_whole, D_weights, D_later), (-1, m_state), ?_, ?_, rfl, hR0⟩
        · unfold p_X5_mean; rw [h1', zbs, if_neg z1n0, h5', zbs, if_neg z1n0, h7, zbs, if_pos rfl]
        · unfold p_X6_mean; rw [h2', zbs, if_neg z1n0, h6', zbs, if_neg z1n0, h8, zbs, if_pos rfl]
    · have h5' : p_X5_within a2 (0 : Int32) (8 : Int32) = some 0 := h5
      have h6' : p_X6_in a2.toInt64 (0 : Int64) (8 : Int64) = some 0 := h6
      refine ⟨(-1, T_draws, T_foot, T_point, T_stiff, T_bears, T_year, T_traits, D_whole, D_weights, D_later), (-1, m_state), ?_, ?_, rfl, hR0⟩
      · unfold p_X5_mean; rw [h1', zbs, if_neg z1n0, h5', zbs, if_pos rfl]
      · unfold p_X6_mean; rw [h2', zbs, if_neg z1n0, h6', zbs, if_pos rfl]
  · have h1' : p_X5_within a1 (0 : Int32) (10 : Int32) = some 0 := h1
    have h2' : p_X6_in a1.toInt64 (0 : Int64) (10 : Int64) = some 0 := h2
    refine ⟨(-1, T_draws, T_foot, T_point, T_stiff, T_bears, T_year, T_traits, D_whole, D_weights, D_later), (-1, m_state), ?_, ?_, rfl, hR0⟩
    · unfold p_X5_mean; rw [h1', zbs, if_pos rfl]
    · unfold p_X6_mean; rw [h2', zbs, if_pos rfl]
set_option maxHeartbeats 4000000 in
theorem q_drift {L_draws : Int32} {L_foot : Int32} {L_point : Int32} {L_stiff : Int32} {L_bears : Int32} {L_year : Int32} {L_traits : Nat → Int32} {A0_draws : Int32} {A0_foot : Int32} {A0_point : Int32} {A0_stiff : Int32} {A0_bears : Int32} {A0_year : Int32} {A0_traits : Nat → Int32} {A1_draws : Int32} {A1_foot : Int32} {A1_point : Int32} {A1_stiff : Int32} {A1_bears : Int32} {A1_year : Int32} {A1_traits : Nat → Int32} {x_kept : Nat → Int32} {P_length : Int32} {P_bytes : Nat → Int32} {N_size : Int32} {N_years : Nat → Int32} {N_cells : Nat → Int32} {S0_lane : Int32} {S0_size : Int32} {S0_cells : Nat → Int32} {S1_lane : Int32} {S1_size : Int32} {S1_cells : Nat → Int32} {S2_lane : Int32} {S2_size : Int32} {S2_cells : Nat → Int32} {S3_lane : Int32} {S3_size : Int32} {S3_cells : Nat → Int32} {x_textFault : Int32} {x_readFault : Int32} {m_state : Nat → Int32} {m_tape : Nat → Int32} {m_taped : Int32} {m_fault : Int32} {m_cuts : Nat → Int32} {m_letters : Nat → Int32} {m_silent : Int32} {m_seen : Nat → Int32} {m_seenMany : Int32} {m_isKept : Nat → Int32} {m_lanes : Nat → Int32} {m_lengths : Nat → Int32} {m_sheetCells : Nat → Int32} {m_torn : Int32} (T_draws : Int32) (T_foot : Int32) (T_point : Int32) (T_stiff : Int32) (T_bears : Int32) (T_year : Int32) (T_traits : Nat → Int32) (a1 : Int32) (a2 : Int32) (a3 : Int32) (hR : zRel L_draws L_foot L_point L_stiff L_bears L_year L_traits A0_draws A0_foot A0_point A0_stiff A0_bears A0_year A0_traits A1_draws A1_foot A1_point A1_stiff A1_bears A1_year A1_traits x_kept P_length P_bytes N_size N_years N_cells S0_lane S0_size S0_cells S1_lane S1_size S1_cells S2_lane S2_size S2_cells S3_lane S3_size S3_cells x_textFault x_readFault m_state m_tape m_taped m_fault m_cuts m_letters m_silent m_seen m_seenMany m_isKept m_lanes m_lengths m_sheetCells m_torn) : ∃ (oX5 : Int32 × Int32 × Int32 × Int32 × Int32 × Int32 × Int32 × (Nat → Int32)) (oX6 : Int32 × (Nat → Int32)), p_X5_drift a1 a2 a3 L_draws L_foot L_point L_stiff L_bears L_year L_traits T_draws T_foot T_point T_stiff T_bears T_year T_traits = some oX5 ∧ p_X6_drift a1 a2 a3 m_silent m_state = some oX6 ∧ oX5.1 = oX6.1 ∧ zRel L_draws L_foot L_point L_stiff L_bears L_year L_traits A0_draws A0_foot A0_point A0_stiff A0_bears A0_year A0_traits A1_draws A1_foot A1_point A1_stiff A1_bears A1_year A1_traits x_kept P_length P_bytes N_size N_years N_cells S0_lane S0_size S0_cells S1_lane S1_size S1_cells S2_lane S2_size S2_cells S3_lane S3_size S3_cells x_textFault x_readFault oX6.2 m_tape m_taped m_fault m_cuts m_letters m_silent m_seen m_seenMany m_isKept m_lanes m_lengths m_sheetCells m_torn := by
  have hR0 := hR
  obtain ⟨hL, hA0, hA1, hT, hN, hS0, hS1, hS2, hS3, e1, e2, e3, e4, e5⟩ := hR
  subst e3
  have hL0 := hL
  obtain ⟨T, pt, yr, ⟨hV, hp, hy, hw⟩, ⟨rfl, rfl, rfl, rfl, rfl, rfl, hA⟩, hM⟩ := hL
  have hd := hV.1
  have g20 : z_get m_state 156 (20 : Int32) = some (nI (t_d T)) := by rw [← hM.1]; exact z_get_n (i := 20) (by decide) (by decide)
  rcases arg_in a2 (lo := 1) (hi := 60) (by decide) (by decide) with ⟨n, n0, n1, rfl, h3, h4⟩ | ⟨h3, h4, -⟩
  · have h3' : p_X5_within (nI n) (1 : Int32) (60 : Int32) = some 1 := h3
    have h4' : p_X6_in (nI n).toInt64 (1 : Int64) (60 : Int64) = some 1 := h4
    rcases arg_half a3 with ⟨w, hw1, rfl, h5, h6⟩ | ⟨h5, h6⟩
    · by_cases c : 0 < t_d T
      · have hC := zM_cp (b := 104) hd hM
        have hlo0 : zLo m_state (zcp m_state 0 104) := zLo_c (zLo_r _) (by decide)
        have hl5 := a_lean hV hp
        have hl6 : p_X6_leanOn (104 : Int32) (zcp m_state 0 104) = _ := b_lean hV hC (by decide) hp
        obtain ⟨r1, r2, k1, k2, k3, hlo, k5⟩ := drift_both hV (zA_ct (b := T_traits) hd hA) hC hlo0 hM.1 hp hy c n1 a1 (nI pt) (nI yr) (zct L_traits T_traits)
        refine ⟨(if nI w = 0 then r1.2.1 else r1.1, nI (t_d T), nI (t_ft T), r1.2.1, nI (t_st T), nI (t_be T), r1.2.2.1, r1.2.2.2), (if nI w = 0 then r1.2.1 else r2.1, r2.2), ?_, ?_, ?_, zLo_Pg hlo hL0, zLo_I1 hlo hA0, zLo_I2 hlo hA1, hT, hN, hS0, hS1, hS2, hS3, e1, e2, rfl, e4, e5⟩
        · unfold p_X5_drift p_X4_copyFrom
          rw [h3', zbs, if_neg z1n0, h5, zbs, if_neg z1n0, if_pos (show (0 : Int32) < nI (t_d T) from nI_lt (a := 0) c (by omega)), zbs]
          try dsimp only
          rw [hl5, zbs]
          have k1' := k1
          unfold zct at k1'
          rw [k1', zbs]
          (repeat' split) <;> rfl
        · unfold p_X6_drift
          rw [h4', zbs, if_neg z1n0, h6, zbs, if_neg z1n0, g20, zbs, if_neg (show ¬ nI (t_d T) = (0 : Int32) from nI_ne' (b := 0) (by omega) (by omega) (by decide)), b_cp104, zbs, hl6, zbs, k2, zbs, k5, zbs]
          (repeat' split) <;> rfl
        · try dsimp only
          rw [k3]
      · have c0 : t_d T = 0 := by omega
        refine ⟨(-2, T_draws, T_foot, T_point, T_stiff, T_bears, T_year, T_traits), (-2, m_state), ?_, ?_, rfl, hR0⟩
        · unfold p_X5_drift; rw [h3', zbs, if_neg z1n0, h5, zbs, if_neg z1n0, if_neg (show ¬ (0 : Int32) < nI (t_d T) by rw [c0]; decide)]
        · unfold p_X6_drift; rw [h4', zbs, if_neg z1n0, h6, zbs, if_neg z1n0, g20, zbs, if_pos (show nI (t_d T) = (0 : Int32) by rw [c0]; rfl)]
    · refine ⟨(-1, T_draws, T_foot, T_point, T_stiff, T_bears, T_year, T_traits), (-1, m_state), ?_, ?_, rfl, hR0⟩
      · unfold p_X5_drift; rw [h3', zbs, if_neg z1n0, h5, zbs, if_pos rfl]
      · unfold p_X6_drift; rw [h4', zbs, if_neg z1n0, h6, zbs, if_pos rfl]
  · have h3' : p_X5_within a2 (1 : Int32) (60 : Int32) = some 0 := h3
    have h4' : p_X6_in a2.toInt64 (1 : Int64) (60 : Int64) = some 0 := h4
    refine ⟨(-1, T_draws, T_foot, T_point, T_stiff, T_bears, T_year, T_traits), (-1, m_state), ?_, ?_, rfl, hR0⟩
    · unfold p_X5_drift; rw [h3', zbs, if_pos rfl]
    · unfold p_X6_drift; rw [h4', zbs, if_pos rfl]
