set_option maxHeartbeats 4000000 in
theorem q_count {L_draws : Int32} {L_foot : Int32} {L_point : Int32} {L_stiff : Int32} {L_bears : Int32} {L_year : Int32} {L_traits : Nat → Int32} {A0_draws : Int32} {A0_foot : Int32} {A0_point : Int32} {A0_stiff : Int32} {A0_bears : Int32} {A0_year : Int32} {A0_traits : Nat → Int32} {A1_draws : Int32} {A1_foot : Int32} {A1_point : Int32} {A1_stiff : Int32} {A1_bears : Int32} {A1_year : Int32} {A1_traits : Nat → Int32} {x_kept : Nat → Int32} {P_length : Int32} {P_bytes : Nat → Int32} {N_size : Int32} {N_years : Nat → Int32} {N_cells : Nat → Int32} {S0_lane : Int32} {S0_size : Int32} {S0_cells : Nat → Int32} {S1_lane : Int32} {S1_size : Int32} {S1_cells : Nat → Int32} {S2_lane : Int32} {S2_size : Int32} {S2_cells : Nat → Int32} {S3_lane : Int32} {S3_size : Int32} {S3_cells : Nat → Int32} {x_textFault : Int32} {x_readFault : Int32} {m_state : Nat → Int32} {m_tape : Nat → Int32} {m_taped : Int32} {m_fault : Int32} {m_cuts : Nat → Int32} {m_letters : Nat → Int32} {m_silent : Int32} {m_seen : Nat → Int32} {m_seenMany : Int32} {m_isKept : Nat → Int32} {m_lanes : Nat → Int32} {m_lengths : Nat → Int32} {m_sheetCells : Nat → Int32} {m_torn : Int32} (a1 : Int32) (hR : zRel L_draws L_foot L_point L_stiff L_bears L_year L_traits A0_draws A0_foot A0_point A0_stiff A0_bears A0_year A0_traits A1_draws A1_foot A1_point A1_stiff A1_bears A1_year A1_traits x_kept P_length P_bytes N_size N_years N_cells S0_lane S0_size S0_cells S1_lane S1_size S1_cells S2_lane S2_size S2_cells S3_lane S3_size S3_cells x_textFault x_readFault m_state m_tape m_taped m_fault m_cuts m_letters m_silent m_seen m_seenMany m_isKept m_lanes m_lengths m_sheetCells m_torn) : ∃ (oX5 : Int32) (oX6 : Int32), p_X5_count a1 L_draws L_year L_traits x_kept P_length N_size S0_lane S0_size = some oX5 ∧ p_X6_count a1 m_taped m_seenMany m_state m_isKept m_lanes m_lengths = some oX6 ∧ oX5 = oX6 ∧ zRel L_draws L_foot L_point L_stiff L_bears L_year L_traits A0_draws A0_foot A0_point A0_stiff A0_bears A0_year A0_traits A1_draws A1_foot A1_point A1_stiff A1_bears A1_year A1_traits x_kept P_length P_bytes N_size N_years N_cells S0_lane S0_size S0_cells S1_lane S1_size S1_cells S2_lane S2_size S2_cells S3_lane S3_size S3_cells x_textFault x_readFault m_state m_tape m_taped m_fault m_cuts m_letters m_silent m_seen m_seenMany m_isKept m_lanes m_lengths m_sheetCells m_torn := by
  have hR0 := hR
  obtain ⟨hL, hA0, hA1, hT, hN, hS0, hS1, hS2, hS3, e1, e2, e3, e4, e5⟩ := hR
  subst e3
  obtain ⟨T, pt, yr, ⟨hV, hp, hy, hw⟩, ⟨rfl, rfl, rfl, rfl, rfl, rfl, hA⟩, hM⟩ := hL
  obtain ⟨nt, -, rfl, rfl, -⟩ := hT
  obtain ⟨nn, -, rfl, rfl, -⟩ := hN
  have hb := b_count hV hM hy
  have key : ∃ r, p_X5_count a1 (nI (t_d T)) (nI yr) L_traits x_kept (nI nt) (nI nn) S0_lane S0_size = some r ∧ p_X6_count a1 (nI nt) (nI nn) m_state m_isKept m_lanes m_lengths = some r := by
    unfold p_X5_count p_X6_count
    rw [hb, zbs]
    by_cases c0 : a1 = 0
    · rw [if_pos c0, if_pos c0]; exact ⟨_, rfl, rfl⟩
    rw [if_neg c0, if_neg c0]
    by_cases c1 : a1 = 1
    · rw [if_pos c1, if_pos c1, a_kept hA0.2.1 hA1.2.1, zbs, z_get_e 0 (show (0 : Int32) = nI 0 from rfl) (by decide) (by decide), zbs, z_get_e 1 (show (1 : Int32) = nI 1 from rfl) (by decide) (by decide), zbs, ← hA0.1, ← hA1.1]
      rcases hA0.2.1 with q0 | q0 <;> rcases hA1.2.1 with q1 | q1 <;> rw [q0, q1] <;> exact ⟨_, rfl, rfl⟩
    rw [if_neg c1, if_neg c1]
    by_cases c2 : a1 = 2
    · rw [if_pos c2, if_pos c2]; exact ⟨_, rfl, rfl⟩
    rw [if_neg c2, if_neg c2]
    by_cases c3 : a1 = 3
    · rw [if_pos c3, if_pos c3, z_get_e 0 (show (0 : Int32) = nI 0 from rfl) (by decide) (by decide), zbs, z_get_e 0 (show (0 : Int32) = nI 0 from rfl) (by decide) (by decide), zbs]
      unfold p_X1_isNothing
      rcases hS0.1 with ⟨q1, q2⟩ | ⟨t, n, ht, hn, q1, q2, q3, q4⟩
      · rw [q1, q2, if_pos rfl, if_pos rfl, zbs, if_neg z1n0]; exact ⟨_, rfl, rfl⟩
      · rw [q1, q2, q3, q4, if_neg (nI_m4 (by omega)), if_neg (show ¬ nI t = (-1 : Int32) from nI_m1 (by omega)), zbs, if_pos rfl]; exact ⟨_, rfl, rfl⟩
    rw [if_neg c3, if_neg c3]
    by_cases c4 : a1 = 4
    · rw [if_pos c4, if_pos c4, a_pulls hV hA]; exact ⟨_, rfl, rfl⟩
    rw [if_neg c4, if_neg c4]
    by_cases c5 : a1 = 5
    · rw [if_pos c5, if_pos c5, a_drawing hV hA hy]; exact ⟨_, rfl, rfl⟩
    rw [if_neg c5, if_neg c5]
    exact ⟨_, rfl, rfl⟩
  obtain ⟨r, k1, k2⟩ := key
  exact ⟨r, r, k1, k2, rfl, hR0⟩
set_option maxHeartbeats 4000000 in
theorem q_sheet {L_draws : Int32} {L_foot : Int32} {L_point : Int32} {L_stiff : Int32} {L_bears : Int32} {L_year : Int32} {L_traits : Nat → Int32} {A0_draws : Int32} {A0_foot : Int32} {A0_point : Int32} {A0_stiff : Int32} {A0_bears : Int32} {A0_year : Int32} {A0_traits : Nat → Int32} {A1_draws : Int32} {A1_foot : Int32} {A1_point : Int32} {A1_stiff : Int32} {A1_bears : Int32} {A1_year : Int32} {A1_traits : Nat → Int32} {x_kept : Nat → Int32} {P_length : Int32} {P_bytes : Nat → Int32} {N_size : Int32} {N_years : Nat → Int32} {N_cells : Nat → Int32} {S0_lane : Int32} {S0_size : Int32} {S0_cells : Nat → Int32} {S1_lane : Int32} {S1_size : Int32} {S1_cells : Nat → Int32} {S2_lane : Int32} {S2_size : Int32} {S2_cells : Nat → Int32} {S3_lane : Int32} {S3_size : Int32} {S3_cells : Nat → Int32} {x_textFault : Int32} {x_readFault : Int32} {m_state : Nat → Int32} {m_tape : Nat → Int32} {m_taped : Int32} {m_fault : Int32} {m_cuts : Nat → Int32} {m_letters : Nat → Int32} {m_silent : Int32} {m_seen : Nat → Int32} {m_seenMany : Int32} {m_isKept : Nat → Int32} {m_lanes : Nat → Int32} {m_lengths : Nat → Int32} {m_sheetCells : Nat → Int32} {m_torn : Int32} (a1 : Int32) (a2 : Int32) (a3 : Int32) (hR : zRel L_draws L_foot L_point L_stiff L_bears L_year L_traits A0_draws A0_foot A0_point A0_stiff A0_bears A0_year A0_traits A1_draws A1_foot A1_point A1_stiff A1_bears A1_year A1_traits x_kept P_length P_bytes N_size N_years N_cells S0_lane S0_size S0_cells S1_lane S1_size S1_cells S2_lane S2_size S2_cells S3_lane S3_size S3_cells x_textFault x_readFault m_state m_tape m_taped m_fault m_cuts m_letters m_silent m_seen m_seenMany m_isKept m_lanes m_lengths m_sheetCells m_torn) : ∃ (oX5 : Int32 × Int32 × Int32 × (Nat → Int32) × Int32 × Int32 × (Nat → Int32) × Int32 × Int32 × (Nat → Int32) × Int32 × Int32 × (Nat → Int32)) (oX6 : Int32 × (Nat → Int32) × (Nat → Int32) × (Nat → Int32)), p_X5_sheet a1 a2 a3 S0_lane S0_size S0_cells S1_lane S1_size S1_cells S2_lane S2_size S2_cells S3_lane S3_size S3_cells = some oX5 ∧ p_X6_sheet a1 a2 a3 m_lanes m_lengths m_sheetCells = some oX6 ∧ oX5.1 = oX6.1 ∧ zRel L_draws L_foot L_point L_stiff L_bears L_year L_traits A0_draws A0_foot A0_point A0_stiff A0_bears A0_year A0_traits A1_draws A1_foot A1_point A1_stiff A1_bears A1_year A1_traits x_kept P_length P_bytes N_size N_years N_cells oX5.2.1 oX5.2.2.1 oX5.2.2.2.1 oX5.2.2.2.2.1 oX5.2.2.2.2.2.1 oX5.2.2.2.2.2.2.1 oX5.2.2.2.2.2.2.2.1 oX5.2.2.2.2.2.2.2.2.1 oX5.2.2.2.2.2.2.2.2.2.1 oX5.2.2.2.2.2.2.2.2.2.2.1 oX5.2.2.2.2.2.2.2.2.2.2.2.1 oX5.2.2.2.2.2.2.2.2.2.2.2.2 x_textFault x_readFault m_state m_tape m_taped m_fault m_cuts m_letters m_silent m_seen m_seenMany m_isKept oX6.2.1 oX6.2.2.1 oX6.2.2.2 m_torn := by
  have hR0 := hR
  obtain ⟨hL, hA0, hA1, hT, hN, hS0, hS1, hS2, hS3, e1, e2, e3, e4, e5⟩ := hR
  rcases arg_sheet a1 with ⟨k, hk, rfl, h1, h2⟩ | ⟨h1, h2⟩
  · rcases arg_lane a2 with ⟨t, ht, rfl, h3, h4⟩ | ⟨h3, h4⟩
    · by_cases c1 : a3 ≤ (40 : Int32)
      · by_cases c2 : 0 ≤ a3
        · obtain ⟨n, hn, rfl⟩ := nI_of (show ¬ a3 < 0 from Int32.not_lt.mpr c2)
          have hn40 : n ≤ 40 := by
            rcases Nat.lt_or_ge 40 n with q | q
            · exact absurd c1 (nI_ge (a := 40) q hn)
            · exact q
          have l1 : z_set m_lanes 4 (nI k) (nI t) = some (upd m_lanes k (nI t)) := z_set_n (by omega) (by decide)
          have l2 : z_set m_lengths 4 (nI k) (nI n) = some (upd m_lengths k (nI n)) := z_set_n (by omega) (by decide)
          have hb : p_X6_sheet (nI k) (nI t) (nI n) m_lanes m_lengths m_sheetCells = some (1, upd m_lanes k (nI t), upd m_lengths k (nI n), zzr m_sheetCells (40 * k) 40) := by
            unfold p_X6_sheet
            rw [h2, zbs, if_neg z1n0, h4, zbs, if_neg z1n0, if_pos c1, if_pos c2, l1, zbs, l2, zbs, b_renew hk]
            rfl
          rcases (show k = 0 ∨ k = 1 ∨ k = 2 ∨ k = 3 by omega) with rfl | rfl | rfl | rfl
          · refine ⟨(1, nI t, nI n, zzr S0_cells 0 40, S1_lane, S1_size, S1_cells, S2_lane, S2_size, S2_cells, S3_lane, S3_size, S3_cells), (1, upd m_lanes 0 (nI t), upd m_lengths 0 (nI n), zzr m_sheetCells (40 * 0) 40), ?_, hb, rfl, hL, hA0, hA1, hT, hN, zSh_new ht hn40 (fun i hi => zzr_in (by omega)) (fun i hi => zzr_in (by omega)), zSh_keep hS1 (pk_un (f := m_lanes) (x := nI t) (show ¬ (1 : Nat) = 0 by decide)) (pk_un (f := m_lengths) (x := nI n) (show ¬ (1 : Nat) = 0 by decide)) (fun i hi => zzr_out (by omega)), zSh_keep hS2 (pk_un (f := m_lanes) (x := nI t) (show ¬ (2 : Nat) = 0 by decide)) (pk_un (f := m_lengths) (x := nI n) (show ¬ (2 : Nat) = 0 by decide)) (fun i hi => zzr_out (by omega)), zSh_keep hS3 (pk_un (f := m_lanes) (x := nI t) (show ¬ (3 : Nat) = 0 by decide)) (pk_un (f := m_lengths) (x := nI n) (show ¬ (3 : Nat) = 0 by decide)) (fun i hi => zzr_out (by omega)), e1, e2, e3, e4, e5⟩
            unfold p_X5_sheet
            rw [h1, zbs, if_neg z1n0, h3, zbs, if_neg z1n0, if_pos c1, if_pos c2, if_pos (show nI 0 = (0 : Int32) from rfl), a_renew]
            rfl
          · refine ⟨(1, S0_lane, S0_size, S0_cells, nI t, nI n, zzr S1_cells 0 40, S2_lane, S2_size, S2_cells, S3_lane, S3_size, S3_cells), (1, upd m_lanes 1 (nI t), upd m_lengths 1 (nI n), zzr m_sheetCells (40 * 1) 40), ?_, hb, rfl, hL, hA0, hA1, hT, hN, zSh_keep hS0 (pk_un (f := m_lanes) (x := nI t) (show ¬ (0 : Nat) = 1 by decide)) (pk_un (f := m_lengths) (x := nI n) (show ¬ (0 : Nat) = 1 by decide)) (fun i hi => zzr_out (by omega)), zSh_new ht hn40 (fun i hi => zzr_in (by omega)) (fun i hi => zzr_in (by omega)), zSh_keep hS2 (pk_un (f := m_lanes) (x := nI t) (show ¬ (2 : Nat) = 1 by decide)) (pk_un (f := m_lengths) (x := nI n) (show ¬ (2 : Nat) = 1 by decide)) (fun i hi => zzr_out (by omega)), zSh_keep hS3 (pk_un (f := m_lanes) (x := nI t) (show ¬ (3 : Nat) = 1 by decide)) (pk_un (f := m_lengths) (x := nI n) (show ¬ (3 : Nat) = 1 by decide)) (fun i hi => zzr_out (by omega)), e1, e2, e3, e4, e5⟩
            unfold p_X5_sheet
            rw [h1, zbs, if_neg z1n0, h3, zbs, if_neg z1n0, if_pos c1, if_pos c2, if_neg (show ¬ nI 1 = (0 : Int32) by decide), if_pos (show nI 1 = (1 : Int32) from rfl), a_renew]
            rfl
          · refine ⟨(1, S0_lane, S0_size, S0_cells, S1_lane, S1_size, S1_cells, nI t, nI n, zzr S2_cells 0 40, S3_lane, S3_size, S3_cells), (1, upd m_lanes 2 (nI t), upd m_lengths 2 (nI n), zzr m_sheetCells (40 * 2) 40), ?_, hb, rfl, hL, hA0, hA1, hT, hN, zSh_keep hS0 (pk_un (f := m_lanes) (x := nI t) (show ¬ (0 : Nat) = 2 by decide)) (pk_un (f := m_lengths) (x := nI n) (show ¬ (0 : Nat) = 2 by decide)) (fun i hi => zzr_out (by omega)), zSh_keep hS1 (pk_un (f := m_lanes) (x := nI t) (show ¬ (1 : Nat) = 2 by decide)) (pk_un (f := m_lengths) (x := nI n) (show ¬ (1 : Nat) = 2 by decide)) (fun i hi => zzr_out (by omega)), zSh_new ht hn40 (fun i hi => zzr_in (by omega)) (fun i hi => zzr_in (by omega)), zSh_keep hS3 (pk_un (f := m_lanes) (x := nI t) (show ¬ (3 : Nat) = 2 by decide)) (pk_un (f := m_lengths) (x := nI n) (show ¬ (3 : Nat) = 2 by decide)) (fun i hi => zzr_out (by omega)), e1, e2, e3, e4, e5⟩
            unfold p_X5_sheet
            rw [h1, zbs, if_neg z1n0, h3, zbs, if_neg z1n0, if_pos c1, if_pos c2, if_neg (show ¬ nI 2 = (0 : Int32) by decide), if_neg (show ¬ nI 2 = (1 : Int32) by decide), if_pos (show nI 2 = (2 : Int32) from rfl), a_renew]
            rfl
          · refine ⟨(1, S0_lane, S0_size, S0_cells, S1_lane, S1_size, S1_cells, S2_lane, S2_size, S2_cells, nI t, nI n, zzr S3_cells 0 40), (1, upd m_lanes 3 (nI t), upd m_lengths 3 (nI n), zzr m_sheetCells (40 * 3) 40), ?_, hb, rfl, hL, hA0, hA1, hT, hN, zSh_keep hS0 (pk_un (f := m_lanes) (x := nI t) (show ¬ (0 : Nat) = 3 by decide)) (pk_un (f := m_lengths) (x := nI n) (show ¬ (0 : Nat) = 3 by decide)) (fun i hi => zzr_out (by omega)), zSh_keep hS1 (pk_un (f := m_lanes) (x := nI t) (show ¬ (1 : Nat) = 3 by decide)) (pk_un (f := m_lengths) (x := nI n) (show ¬ (1 : Nat) = 3 by decide)) (fun i hi => zzr_out (by omega)), zSh_keep hS2 (pk_un (f := m_lanes) (x := nI t) (show ¬ (2 : Nat) = 3 by decide)) (pk_un (f := m_lengths) (x := nI n) (show ¬ (2 : Nat) = 3 by decide)) (fun i hi => zzr_out (by omega)), zSh_new ht hn40 (fun i hi => zzr_in (by omega)) (fun i hi => zzr_in (by omega)), e1, e2, e3, e4, e5⟩
            unfold p_X5_sheet
            rw [h1, zbs, if_neg z1n0, h3, zbs, if_neg z1n0, if_pos c1, if_pos c2, if_neg (show ¬ nI 3 = (0 : Int32) by decide), if_neg (show ¬ nI 3 = (1 : Int32) by decide), if_neg (show ¬ nI 3 = (2 : Int32) by decide), if_pos (show nI 3 = (3 : Int32) from rfl), a_renew]
            rfl
        · refine ⟨(-14, S0_lane, S0_size, S0_cells, S1_lane, S1_size, S1_cells, S2_lane, S2_size, S2_cells, S3_lane, S3_size, S3_cells), (-14, m_lanes, m_lengths, m_sheetCells), ?_, ?_, rfl, hR0⟩
          · unfold p_X5_sheet; rw [h1, zbs, if_neg z1n0, h3, zbs, if_neg z1n0, if_pos c1, if_neg c2]
          · unfold p_X6_sheet; rw [h2, zbs, if_neg z1n0, h4, zbs, if_neg z1n0, if_pos c1, if_neg c2]
      · refine ⟨(-1, S0_lane, S0_size, S0_cells, S1_lane, S1_size, S1_cells, S2_lane, S2_size, S2_cells, S3_lane, S3_size, S3_cells), (-1, m_lanes, m_lengths, m_sheetCells), ?_, ?_, rfl, hR0⟩
        · unfold p_X5_sheet; rw [h1, zbs, if_neg z1n0, h3, zbs, if_neg z1n0, if_neg c1]
        · unfold p_X6_sheet; rw [h2, zbs, if_neg z1n0, h4, zbs, if_neg z1n0, if_neg c1]
    · refine ⟨(-1, S0_lane, S0_size, S0_cells, S1_lane, S1_size, S1_cells, S2_lane, S2_size, S2_cells, S3_lane, S3_size, S3_cells), (-1, m_lanes, m_lengths, m_sheetCells), ?_, ?_, rfl, hR0⟩
      · unfold p_X5_sheet; rw [h1, zbs, if_neg z1n0, h3, zbs, if_pos rfl]
      · unfold p_X6_sheet; rw [h2, zbs, if_neg z1n0, h4, zbs, if_pos rfl]
  · refine ⟨(-1, S0_lane, S0_size, S0_cells, S1_lane, S1_size, S1_cells, S2_lane, S2_size, S2_cells, S3_lane, S3_size, S3_cells), (-1, m_lanes, m_lengths, m_sheetCells), ?_, ?_, rfl, hR0⟩
    · unfold p_X5_sheet; rw [h1, zbs, if_pos rfl]
    · unfold p_X6_sheet; rw [h2, zbs, if_pos rfl]
set_option maxHeartbeats 4000000 in
theorem q_lay {L_draws : Int32} {L_foot : Int32} {L_point : Int32} {L_stiff : Int32} {L_bears : Int32} {L_year : Int32} {L_traits : Nat → Int32} {A0_draws : Int32} {A0_foot : Int32} {A0_point : Int32} {A0_stiff : Int32} {A0_bears : Int32} {A0_year : Int32} {A0_traits : Nat → Int32} {A1_draws : Int32} {A1_foot : Int32} {A1_point : Int32} {A1_stiff : Int32} {A1_bears : Int32} {A1_year : Int32} {A1_traits : Nat → Int32} {x_kept : Nat → Int32} {P_length : Int32} {P_bytes : Nat → Int32} {N_size : Int32} {N_years : Nat → Int32} {N_cells : Nat → Int32} {S0_lane : Int32} {S0_size : Int32} {S0_cells : Nat → Int32} {S1_lane : Int32} {S1_size : Int32} {S1_cells : Nat → Int32} {S2_lane : Int32} {S2_size : Int32} {S2_cells : Nat → Int32} {S3_lane : Int32} {S3_size : Int32} {S3_cells : Nat → Int32} {x_textFault : Int32} {x_readFault : Int32} {m_state : Nat → Int32} {m_tape : Nat → Int32} {m_taped : Int32} {m_fault : Int32} {m_cuts : Nat → Int32} {m_letters : Nat → Int32} {m_silent : Int32} {m_seen : Nat → Int32} {m_seenMany : Int32} {m_isKept : Nat → Int32} {m_lanes : Nat → Int32} {m_lengths : Nat → Int32} {m_sheetCells : Nat → Int32} {m_torn : Int32} (a1 : Int32) (a2 : Int32) (a3 : Int32) (hR : zRel L_draws L_foot L_point L_stiff L_bears L_year L_traits A0_draws A0_foot A0_point A0_stiff A0_bears A0_year A0_traits A1_draws A1_foot A1_point A1_stiff A1_bears A1_year A1_traits x_kept P_length P_bytes N_size N_years N_cells S0_lane S0_size S0_cells S1_lane S1_size S1_cells S2_lane S2_size S2_cells S3_lane S3_size S3_cells x_textFault x_readFault m_state m_tape m_taped m_fault m_cuts m_letters m_silent m_seen m_seenMany m_isKept m_lanes m_lengths m_sheetCells m_torn) : ∃ (oX5 : Int32 × (Nat → Int32) × (Nat → Int32) × (Nat → Int32) × (Nat → Int32)) (oX6 : Int32 × (Nat → Int32)), p_X5_lay a1 a2 a3 S0_lane S0_size S0_cells S1_lane S1_size S1_cells S2_lane S2_size S2_cells S3_lane S3_size S3_cells = some oX5 ∧ p_X6_lay a1 a2 a3 m_lanes m_lengths m_sheetCells = some oX6 ∧ oX5.1 = oX6.1 ∧ zRel L_draws L_foot L_point L_stiff L_bears L_year L_traits A0_draws A0_foot A0_point A0_stiff A0_bears A0_year A0_traits A1_draws A1_foot A1_point A1_stiff A1_bears A1_year A1_traits x_kept P_length P_bytes N_size N_years N_cells S0_lane S0_size oX5.2.1 S1_lane S1_size oX5.2.2.1 S2_lane S2_size oX5.2.2.2.1 S3_lane S3_size oX5.2.2.2.2 x_textFault x_readFault m_state m_tape m_taped m_fault m_cuts m_letters m_silent m_seen m_seenMany m_isKept m_lanes m_lengths oX6.2 m_torn := by
  have hR0 := hR
  obtain ⟨hL, hA0, hA1, hT, hN, hS0, hS1, hS2, hS3, e1, e2, e3, e4, e5⟩ := hR
  rcases arg_sheet a1 with ⟨k, hk, rfl, h1, h2⟩ | ⟨h1, h2⟩
  · rcases (show k = 0 ∨ k = 1 ∨ k = 2 ∨ k = 3 by omega) with rfl | rfl | rfl | rfl
    · rcases hS0.1 with ⟨q1, q2⟩ | ⟨t, n, ht, hn, q1, q2, q3, q4⟩
      · refine ⟨(-11, S0_cells, S1_cells, S2_cells, S3_cells), (-11, m_sheetCells), ?_, ?_, rfl, hR0⟩
        · unfold p_X5_lay; rw [h1, zbs, if_neg z1n0, if_pos (show nI 0 = (0 : Int32) from rfl), q1, a_fo3, zbs, if_neg z1n0]; rfl
        · unfold p_X6_lay; rw [h2, zbs, if_neg z1n0, z_get_n (by decide) (by decide), zbs, q2, if_pos rfl]
      · rcases arg_idx a2 hn with ⟨j, hj, rfl, p1, p2, p3⟩ | ⟨p1, p2⟩
        · refine ⟨(1, upd S0_cells j (zwv t a3), S1_cells, S2_cells, S3_cells), (1, upd m_sheetCells (40 * 0 + j) (zwv t a3)), ?_, b_lay (k := 0) (by decide) ht hj hn h2 q2 q4 p3, rfl, hL, hA0, hA1, hT, hN, zSh_upd (a := 0) hS0, zSh_keep hS1 rfl rfl (fun i hi => pk_un (by omega)), zSh_keep hS2 rfl rfl (fun i hi => pk_un (by omega)), zSh_keep hS3 rfl rfl (fun i hi => pk_un (by omega)), e1, e2, e3, e4, e5⟩
          unfold p_X5_lay
          rw [h1, zbs, if_neg z1n0, if_pos (show nI 0 = (0 : Int32) from rfl), q1, q3, a_fo1 ht ⟨p1, p2⟩, zbs, if_pos rfl, a_write ht (by omega)]
          rfl
        · refine ⟨(-12, S0_cells, S1_cells, S2_cells, S3_cells), (-12, m_sheetCells), ?_, ?_, rfl, hR0⟩
          · unfold p_X5_lay; rw [h1, zbs, if_neg z1n0, if_pos (show nI 0 = (0 : Int32) from rfl), q1, q3, a_fo2 ht p1, zbs, if_neg (show ¬ (2 : Int32) = 0 by decide)]; rfl
          · unfold p_X6_lay; rw [h2, zbs, if_neg z1n0, z_get_n (by decide) (by decide), zbs, q2, if_neg (nI_m4 (by omega)), z_get_n (by decide) (by decide), zbs, q4, p2, zbs, if_pos rfl]
    · rcases hS1.1 with ⟨q1, q2⟩ | ⟨t, n, ht, hn, q1, q2, q3, q4⟩
      · refine ⟨(-11, S0_cells, S1_cells, S2_cells, S3_cells), (-11, m_sheetCells), ?_, ?_, rfl, hR0⟩
        · unfold p_X5_lay; rw [h1, zbs, if_neg z1n0, if_neg (show ¬ nI 1 = (0 : Int32) by decide), if_pos (show nI 1 = (1 : Int32) from rfl), q1, a_fo3, zbs, if_neg z1n0]; rfl
        · unfold p_X6_lay; rw [h2, zbs, if_neg z1n0, z_get_n (by decide) (by decide), zbs, q2, if_pos rfl]
      · rcases arg_idx a2 hn with ⟨j, hj, rfl, p1, p2, p3⟩ | ⟨p1, p2⟩
        · refine ⟨(1, S0_cells, upd S1_cells j (zwv t a3), S2_cells, S3_cells), (1, upd m_sheetCells (40 * 1 + j) (zwv t a3)), ?_, b_lay (k := 1) (by decide) ht hj hn h2 q2 q4 p3, rfl, hL, hA0, hA1, hT, hN, zSh_keep hS0 rfl rfl (fun i hi => pk_un (by omega)), zSh_upd (a := 40) hS1, zSh_keep hS2 rfl rfl (fun i hi => pk_un (by omega)), zSh_keep hS3 rfl rfl (fun i hi => pk_un (by omega)), e1, e2, e3, e4, e5⟩
          unfold p_X5_lay
          rw [h1, zbs, if_neg z1n0, if_neg (show ¬ nI 1 = (0 : Int32) by decide), if_pos (show nI 1 = (1 : Int32) from rfl), q1, q3, a_fo1 ht ⟨p1, p2⟩, zbs, if_pos rfl, a_write ht (by omega)]
          rfl
        · refine ⟨(-12, S0_cells, S1_cells, S2_cells, S3_cells), (-12, m_sheetCells), ?_, ?_, rfl, hR0⟩
          · unfold p_X5_lay; rw [h1, zbs, if_neg z1n0, if_neg (show ¬ nI 1 = (0 : Int32) by decide), if_pos (show nI 1 = (1 : Int32) from rfl), q1, q3, a_fo2 ht p1, zbs, if_neg (show ¬ (2 : Int32) = 0 by decide)]; rfl
          · unfold p_X6_lay; rw [h2, zbs, if_neg z1n0, z_get_n (by decide) (by decide), zbs, q2, if_neg (nI_m4 (by omega)), z_get_n (by decide) (by decide), zbs, q4, p2, zbs, if_pos rfl]
    · rcases hS2.1 with ⟨q1, q2⟩ | ⟨t, n, ht, hn, q1, q2, q3, q4⟩
      · refine ⟨(-11, S0_cells, S1_cells, S2_cells, S3_cells), (-11, m_sheetCells), ?_, ?_, rfl, hR0⟩
        · unfold p_X5_lay; rw [h1, zbs, if_neg z1n0, if_neg (show ¬ nI 2 = (0 : Int32) by decide), if_neg (show ¬ nI 2 = (1 : Int32) by decide), if_pos (show nI 2 = (2 : Int32) from rfl), q1, a_fo3, zbs, if_neg z1n0]; rfl
        · unfold p_X6_lay; rw [h2, zbs, if_neg z1n0, z_get_n (by decide) (by decide), zbs, q2, if_pos rfl]
      · rcases arg_idx a2 hn with ⟨j, hj, rfl, p1, p2, p3⟩ | ⟨p1, p2⟩
        · refine ⟨(1, S0_cells, S1_cells, upd S2_cells j (zwv t a3), S3_cells), (1, upd m_sheetCells (40 * 2 + j) (zwv t a3)), ?_, b_lay (k := 2) (by decide) ht hj hn h2 q2 q4 p3, rfl, hL, hA0, hA1, hT, hN, zSh_keep hS0 rfl rfl (fun i hi => pk_un (by omega)), zSh_keep hS1 rfl rfl (fun i hi => pk_un (by omega)), zSh_upd (a := 80) hS2, zSh_keep hS3 rfl rfl (fun i hi => pk_un (by omega)), e1, e2, e3, e4, e5⟩
          unfold p_X5_lay
          rw [h1, zbs, if_neg z1n0, if_neg (show ¬ nI 2 = (0 : Int32) by decide), if_neg (show ¬ nI 2 = (1 : Int32) by decide), if_pos (show nI 2 = (2 : Int32) from rfl), q1, q3, a_fo1 ht ⟨p1, p2⟩, zbs, if_pos rfl, a_write ht (by omega)]
          rfl
        · refine ⟨(-12, S0_cells, S1_cells, S2_cells, S3_cells), (-12, m_sheetCells), ?_, ?_, rfl, hR0⟩
          · unfold p_X5_lay; rw [h1, zbs, if_neg z1n0, if_neg (show ¬ nI 2 = (0 : Int32) by decide), if_neg (show ¬ nI 2 = (1 : Int32) by decide), if_pos (show nI 2 = (2 : Int32) from rfl), q1, q3, a_fo2 ht p1, zbs, if_neg (show ¬ (2 : Int32) = 0 by decide)]; rfl
          · unfold p_X6_lay; rw [h2, zbs, if_neg z1n0, z_get_n (by decide) (by decide), zbs, q2, if_neg (nI_m4 (by omega)), z_get_n (by decide) (by decide), zbs, q4, p2, zbs, if_pos rfl]
    · rcases hS3.1 with ⟨q1, q2⟩ | ⟨t, n, ht, hn, q1, q2, q3, q4⟩
      · refine ⟨(-11, S0_cells, S1_cells, S2_cells, S3_cells), (-11, m_sheetCells), ?_, ?_, rfl, hR0⟩
        · unfold p_X5_lay; rw [h1, zbs, if_neg z1n0, if_neg (show ¬ nI 3 = (0 : Int32) by decide), if_neg (show ¬ nI 3 = (1 : Int32) by decide), if_neg (show ¬ nI 3 = (2 : Int32) by decide), if_pos (show nI 3 = (3 : Int32) from rfl), q1, a_fo3, zbs, if_neg z1n0]; rfl
        · unfold p_X6_lay; rw [h2, zbs, if_neg z1n0, z_get_n (by decide) (by decide), zbs, q2, if_pos rfl]
      · rcases arg_idx a2 hn with ⟨j, hj, rfl, p1, p2, p3⟩ | ⟨p1, p2⟩
        · refine ⟨(1, S0_cells, S1_cells, S2_cells, upd S3_cells j (zwv t a3)), (1, upd m_sheetCells (40 * 3 + j) (zwv t a3)), ?_, b_lay (k := 3) (by decide) ht hj hn h2 q2 q4 p3, rfl, hL, hA0, hA1, hT, hN, zSh_keep hS0 rfl rfl (fun i hi => pk_un (by omega)), zSh_keep hS1 rfl rfl (fun i hi => pk_un (by omega)), zSh_keep hS2 rfl rfl (fun i hi => pk_un (by omega)), zSh_upd (a := 120) hS3, e1, e2, e3, e4, e5⟩
          unfold p_X5_lay
          rw [h1, zbs, if_neg z1n0, if_neg (show ¬ nI 3 = (0 : Int32) by decide), if_neg (show ¬ nI 3 = (1 : Int32) by decide), if_neg (show ¬ nI 3 = (2 : Int32) by decide), if_pos (show nI 3 = (3 : Int32) from rfl), q1, q3, a_fo1 ht ⟨p1, p2⟩, zbs, if_pos rfl, a_write ht (by omega)]
          rfl
        · refine ⟨(-12, S0_cells, S1_cells, S2_cells, S3_cells), (-12, m_sheetCells), ?_, ?_, rfl, hR0⟩
          · unfold p_X5_lay; rw [h1, zbs, if_neg z1n0, if_neg (show ¬ nI 3 = (0 : Int32) by decide), if_neg (show ¬ nI 3 = (1 : Int32) by decide), if_neg (show ¬ nI 3 = (2 : Int32) by decide), if_pos (show nI 3 = (3 : Int32) from rfl), q1, q3, a_fo2 ht p1, zbs, if_neg (show ¬ (2 : Int32) = 0 by decide)]; rfl
          · unfold p_X6_lay; rw [h2, zbs, if_neg z1n0, z_get_n (by decide) (by decide), zbs, q2, if_neg (nI_m4 (by omega)), z_get_n (by decide) (by decide), zbs, q4, p2, zbs, if_pos rfl]
  · refine ⟨(-1, S0_cells, S1_cells, S2_cells, S3_cells), (-1, m_sheetCells), ?_, ?_, rfl, hR0⟩
    · unfold p_X5_lay; rw [h1, zbs, if_pos rfl]
    · unfold p_X6_lay; rw [h2, zbs, if_pos rfl]
set_option maxHeartbeats 4000000 in
theorem q_kinds {L_draws : Int32} {L_foot : Int32} {L_point : Int32} {L_stiff : Int32} {L_bears : Int32} {L_year : Int32} {L_traits : Nat → Int32} {A0_draws : Int32} {A0_foot : Int32} {A0_point : Int32} {A0_stiff : Int32} {A0_bears : Int32} {A0_year : Int32} {A0_traits : Nat → Int32} {A1_draws : Int32} {A1_foot : Int32} {A1_point : Int32} {A1_stiff : Int32} {A1_bears : Int32} {A1_year : Int32} {A1_traits : Nat → Int32} {x_kept : Nat → Int32} {P_length : Int32} {P_bytes : Nat → Int32} {N_size : Int32} {N_years : Nat → Int32} {N_cells : Nat → Int32} {S0_lane : Int32} {S0_size : Int32} {S0_cells : Nat → Int32} {S1_lane : Int32} {S1_size : Int32} {S1_cells : Nat → Int32} {S2_lane : Int32} {S2_size : Int32} {S2_cells : Nat → Int32} {S3_lane : Int32} {S3_size : Int32} {S3_cells : Nat → Int32} {x_textFault : Int32} {x_readFault : Int32} {m_state : Nat → Int32} {m_tape : Nat → Int32} {m_taped : Int32} {m_fault : Int32} {m_cuts : Nat → Int32} {m_letters : Nat → Int32} {m_silent : Int32} {m_seen : Nat → Int32} {m_seenMany : Int32} {m_isKept : Nat → Int32} {m_lanes : Nat → Int32} {m_lengths : Nat → Int32} {m_sheetCells : Nat → Int32} {m_torn : Int32} (T_draws : Int32) (T_foot : Int32) (T_point : Int32) (T_stiff : Int32) (T_bears : Int32) (T_year : Int32) (T_traits : Nat → Int32) (m_pointBy : Nat → Int32) (a1 : Int32) (hR : zRel L_draws L_foot L_point L_stiff L_bears L_year L_traits A0_draws A0_foot A0_point A0_stiff A0_bears A0_year A0_traits A1_draws A1_foot A1_point A1_stiff A1_bears A1_year A1_traits x_kept P_length P_bytes N_size N_years N_cells S0_lane S0_size S0_cells S1_lane S1_size S1_cells S2_lane S2_size S2_cells S3_lane S3_size S3_cells x_textFault x_readFault m_state m_tape m_taped m_fault m_cuts m_letters m_silent m_seen m_seenMany m_isKept m_lanes m_lengths m_sheetCells m_torn) : ∃ (oX5 : Int32 × Int32 × Int32 × Int32 × Int32 × Int32 × Int32 × (Nat → Int32)) (oX6 : Int32 × (Nat → Int32) × (Nat → Int32)), p_X5_kinds a1 L_draws L_foot L_point L_stiff L_bears L_year L_traits T_draws T_foot T_point T_stiff T_bears T_year T_traits N_size N_years N_cells = some oX5 ∧ p_X6_kinds a1 m_silent m_seenMany m_state m_seen m_pointBy = some oX6 ∧ oX5.1 = oX6.1 ∧ zRel L_draws L_foot L_point L_stiff L_bears L_year L_traits A0_draws A0_foot A0_point A0_stiff A0_bears A0_year A0_traits A1_draws A1_foot A1_point A1_stiff A1_bears A1_year A1_traits x_kept P_length P_bytes N_size N_years N_cells S0_lane S0_size S0_cells S1_lane S1_size S1_cells S2_lane S2_size S2_cells S3_lane S3_size S3_cells x_textFault x_readFault oX6.2.1 m_tape m_taped m_fault m_cuts m_letters m_silent m_seen m_seenMany m_isKept m_lanes m_lengths m_sheetCells m_torn := by
  have hR0 := hR
  obtain ⟨hL, hA0, hA1, hT, hN, hS0, hS1, hS2, hS3, e1, e2, e3, e4, e5⟩ := hR
  subst e3
  have hL0 := hL
  have hN0 := hN
  obtain ⟨T, pt, yr, ⟨hV, hp, hy, hw⟩, ⟨rfl, rfl, rfl, rfl, rfl, rfl, hA⟩, hM⟩ := hL
  obtain ⟨n, sy, sc, rfl, rfl, hS⟩ := zSeen_f hN
  have hd := hV.1
  rcases arg_draw a1 hV.1 hM.1 with ⟨i, hi, rfl, h1, h2⟩ | ⟨h1, h2, -⟩
  · obtain ⟨ja, ha⟩ := a_bits0 hV hA hp hy hS hi T_draws T_foot T_point T_stiff T_bears T_year T_traits
    obtain ⟨r, hb, b1, b2⟩ := b_bits0 hV hM hp hy hS hi m_pointBy
    have hlo := zLx_end b2
    refine ⟨(zbt (zP0 T pt yr n sy sc i) 0 4, ja), (r.1, upd r.2.1 (0 + i) (m_state (0 + i)), r.2.2), ?_, ?_, b1.symm, zLo_Pg hlo hL0, zLo_I1 hlo hA0, zLo_I2 hlo hA1, hT, hN0, hS0, hS1, hS2, hS3, e1, e2, rfl, e4, e5⟩
    · unfold p_X5_kinds
      rw [h1, zbs, if_neg z1n0, ha]
      rfl
    · unfold p_X6_kinds
      have e : nI i = nI (0 + i) := congrArg nI (by omega)
      rw [h2, zbs, if_neg z1n0, hb, e, z_get_n (by omega) (by decide), zbs, zbs, z_set_n (by omega) (by decide)]
      rfl
  · refine ⟨(-1, T_draws, T_foot, T_point, T_stiff, T_bears, T_year, T_traits), (-1, m_state, m_pointBy), ?_, ?_, rfl, hR0⟩
    · unfold p_X5_kinds; rw [h1, zbs, if_pos rfl]
    · unfold p_X6_kinds; rw [h2, zbs, if_pos rfl]
set_option maxHeartbeats 4000000 in
theorem q_pulls {L_draws : Int32} {L_foot : Int32} {L_point : Int32} {L_stiff : Int32} {L_bears : Int32} {L_year : Int32} {L_traits : Nat → Int32} {A0_draws : Int32} {A0_foot : Int32} {A0_point : Int32} {A0_stiff : Int32} {A0_bears : Int32} {A0_year : Int32} {A0_traits : Nat → Int32} {A1_draws : Int32} {A1_foot : Int32} {A1_point : Int32} {A1_stiff : Int32} {A1_bears : Int32} {A1_year : Int32} {A1_traits : Nat → Int32} {x_kept : Nat → Int32} {P_length : Int32} {P_bytes : Nat → Int32} {N_size : Int32} {N_years : Nat → Int32} {N_cells : Nat → Int32} {S0_lane : Int32} {S0_size : Int32} {S0_cells : Nat → Int32} {S1_lane : Int32} {S1_size : Int32} {S1_cells : Nat → Int32} {S2_lane : Int32} {S2_size : Int32} {S2_cells : Nat → Int32} {S3_lane : Int32} {S3_size : Int32} {S3_cells : Nat → Int32} {x_textFault : Int32} {x_readFault : Int32} {m_state : Nat → Int32} {m_tape : Nat → Int32} {m_taped : Int32} {m_fault : Int32} {m_cuts : Nat → Int32} {m_letters : Nat → Int32} {m_silent : Int32} {m_seen : Nat → Int32} {m_seenMany : Int32} {m_isKept : Nat → Int32} {m_lanes : Nat → Int32} {m_lengths : Nat → Int32} {m_sheetCells : Nat → Int32} {m_torn : Int32} (T_draws : Int32) (T_foot : Int32) (T_point : Int32) (T_stiff : Int32) (T_bears : Int32) (T_year : Int32) (T_traits : Nat → Int32) (m_pointBy : Nat → Int32) (a1 : Int32) (hR : zRel L_draws L_foot L_point L_stiff L_bears L_year L_traits A0_draws A0_foot A0_point A0_stiff A0_bears A0_year A0_traits A1_draws A1_foot A1_point A1_stiff A1_bears A1_year A1_traits x_kept P_length P_bytes N_size N_years N_cells S0_lane S0_size S0_cells S1_lane S1_size S1_cells S2_lane S2_size S2_cells S3_lane S3_size S3_cells x_textFault x_readFault m_state m_tape m_taped m_fault m_cuts m_letters m_silent m_seen m_seenMany m_isKept m_lanes m_lengths m_sheetCells m_torn) : ∃ (oX5 : Int32 × Int32 × Int32 × Int32 × Int32 × Int32 × Int32 × (Nat → Int32)) (oX6 : Int32 × (Nat → Int32) × (Nat → Int32)), p_X5_pulls a1 L_draws L_foot L_point L_stiff L_bears L_year L_traits T_draws T_foot T_point T_stiff T_bears T_year T_traits N_size N_years N_cells = some oX5 ∧ p_X6_pulls a1 m_silent m_seenMany m_state m_seen m_pointBy = some oX6 ∧ oX5.1 = oX6.1 ∧ zRel L_draws L_foot L_point L_stiff L_bears L_year L_traits A0_draws A0_foot A0_point A0_stiff A0_bears A0_year A0_traits A1_draws A1_foot A1_point A1_stiff A1_bears A1_year A1_traits x_kept P_length P_bytes N_size N_years N_cells S0_lane S0_size S0_cells S1_lane S1_size S1_cells S2_lane S2_size S2_cells S3_lane S3_size S3_cells x_textFault x_readFault oX6.2.1 m_tape m_taped m_fault m_cuts m_letters m_silent m_seen m_seenMany m_isKept m_lanes m_lengths m_sheetCells m_torn := by
  have hR0 := hR
  obtain ⟨hL, hA0, hA1, hT, hN, hS0, hS1, hS2, hS3, e1, e2, e3, e4, e5⟩ := hR
  subst e3
  have hL0 := hL
  have hN0 := hN
  obtain ⟨T, pt, yr, ⟨hV, hp, hy, hw⟩, ⟨rfl, rfl, rfl, rfl, rfl, rfl, hA⟩, hM⟩ := hL
  obtain ⟨n, sy, sc, rfl, rfl, hS⟩ := zSeen_f hN
  have hd := hV.1
  rcases arg_draw a1 hV.1 hM.1 with ⟨i, hi, rfl, h1, h2⟩ | ⟨h1, h2, -⟩
  · obtain ⟨ja, ha⟩ := a_bits1 hV hA hp hy hS hi T_draws T_foot T_point T_stiff T_bears T_year T_traits
    obtain ⟨g, pb, hb, hlo, -⟩ := b_pullsOf hV hM hp hy hS hi m_pointBy
    refine ⟨(zbt (zP1 T pt yr n sy sc i) 1 20, ja), (zbt (zP1 T pt yr n sy sc i) 1 20, g, pb), ?_, ?_, rfl, zLo_Pg hlo hL0, zLo_I1 hlo hA0, zLo_I2 hlo hA1, hT, hN0, hS0, hS1, hS2, hS3, e1, e2, rfl, e4, e5⟩
    · unfold p_X5_pulls
      rw [h1, zbs, if_neg z1n0, ha]
      rfl
    · unfold p_X6_pulls
      rw [h2, zbs, if_neg z1n0, hb]
      rfl
  · refine ⟨(-1, T_draws, T_foot, T_point, T_stiff, T_bears, T_year, T_traits), (-1, m_state, m_pointBy), ?_, ?_, rfl, hR0⟩
    · unfold p_X5_pulls; rw [h1, zbs, if_pos rfl]
    · unfold p_X6_pulls; rw [h2, zbs, if_pos rfl]
set_option maxHeartbeats 4000000 in
theorem q_spots {L_draws : Int32} {L_foot : Int32} {L_point : Int32} {L_stiff : Int32} {L_bears : Int32} {L_year : Int32} {L_traits : Nat → Int32} {A0_draws : Int32} {A0_foot : Int32} {A0_point : Int32} {A0_stiff : Int32} {A0_bears : Int32} {A0_year : Int32} {A0_traits : Nat → Int32} {A1_draws : Int32} {A1_foot : Int32} {A1_point : Int32} {A1_stiff : Int32} {A1_bears : Int32} {A1_year : Int32} {A1_traits : Nat → Int32} {x_kept : Nat → Int32} {P_length : Int32} {P_bytes : Nat → Int32} {N_size : Int32} {N_years : Nat → Int32} {N_cells : Nat → Int32} {S0_lane : Int32} {S0_size : Int32} {S0_cells : Nat → Int32} {S1_lane : Int32} {S1_size : Int32} {S1_cells : Nat → Int32} {S2_lane : Int32} {S2_size : Int32} {S2_cells : Nat → Int32} {S3_lane : Int32} {S3_size : Int32} {S3_cells : Nat → Int32} {x_textFault : Int32} {x_readFault : Int32} {m_state : Nat → Int32} {m_tape : Nat → Int32} {m_taped : Int32} {m_fault : Int32} {m_cuts : Nat → Int32} {m_letters : Nat → Int32} {m_silent : Int32} {m_seen : Nat → Int32} {m_seenMany : Int32} {m_isKept : Nat → Int32} {m_lanes : Nat → Int32} {m_lengths : Nat → Int32} {m_sheetCells : Nat → Int32} {m_torn : Int32} (T_draws : Int32) (T_foot : Int32) (T_point : Int32) (T_stiff : Int32) (T_bears : Int32) (T_year : Int32) (T_traits : Nat → Int32) (m_pointBy : Nat → Int32) (a1 : Int32) (a2 : Int32) (hR : zRel L_draws L_foot L_point L_stiff L_bears L_year L_traits A0_draws A0_foot A0_point A0_stiff A0_bears A0_year A0_traits A1_draws A1_foot A1_point A1_stiff A1_bears A1_year A1_traits x_kept P_length P_bytes N_size N_years N_cells S0_lane S0_size S0_cells S1_lane S1_size S1_cells S2_lane S2_size S2_cells S3_lane S3_size S3_cells x_textFault x_readFault m_state m_tape m_taped m_fault m_cuts m_letters m_silent m_seen m_seenMany m_isKept m_lanes m_lengths m_sheetCells m_torn) : ∃ (oX5 : Int32 × Int32 × Int32 × Int32 × Int32 × Int32 × Int32 × (Nat → Int32)) (oX6 : Int32 × (Nat → Int32) × (Nat → Int32)), p_X5_spots a1 a2 L_draws L_foot L_point L_stiff L_bears L_year L_traits T_draws T_foot T_point T_stiff T_bears T_year T_traits N_size N_years N_cells = some oX5 ∧ p_X6_spots a1 a2 m_silent m_seenMany m_state m_seen m_pointBy = some oX6 ∧ oX5.1 = oX6.1 ∧ zRel L_draws L_foot L_point L_stiff L_bears L_year L_traits A0_draws A0_foot A0_point A0_stiff A0_bears A0_year A0_traits A1_draws A1_foot A1_point A1_stiff A1_bears A1_year A1_traits x_kept P_length P_bytes N_size N_years N_cells S0_lane S0_size S0_cells S1_lane S1_size S1_cells S2_lane S2_size S2_cells S3_lane S3_size S3_cells x_textFault x_readFault oX6.2.1 m_tape m_taped m_fault m_cuts m_letters m_silent m_seen m_seenMany m_isKept m_lanes m_lengths m_sheetCells m_torn := by
  have hR0 := hR
  obtain ⟨hL, hA0, hA1, hT, hN, hS0, hS1, hS2, hS3, e1, e2, e3, e4, e5⟩ := hR
  subst e3
  have hL0 := hL
  have hN0 := hN
  obtain ⟨T, pt, yr, ⟨hV, hp, hy, hw⟩, ⟨rfl, rfl, rfl, rfl, rfl, rfl, hA⟩, hM⟩ := hL
  obtain ⟨n, sy, sc, rfl, rfl, hS⟩ := zSeen_f hN
  have hd := hV.1
  rcases arg_draw a1 hV.1 hM.1 with ⟨i, hi, rfl, h1, h2⟩ | ⟨h1, h2, -⟩
  · rcases arg_half a2 with ⟨w, hw1, rfl, h5, h6⟩ | ⟨h5, h6⟩
    · obtain ⟨ra, ha, a1, a2⟩ := a_spots hV hA hp hy hS hi T_draws T_foot T_point T_stiff T_bears T_year T_traits
      obtain ⟨rb, hb, b1, b2, b3⟩ := b_spots hV hM hp hy hS hi m_pointBy
      have hlo := zLx_end b3
      refine ⟨(if nI w = 0 then ra.1 else ra.2.1, ra.2.2), (if nI w = 0 then rb.1 else rb.2.1, upd rb.2.2.1 (0 + 10 + i) (m_state (0 + 10 + i)), rb.2.2.2), ?_, ?_, ?_, zLo_Pg hlo hL0, zLo_I1 hlo hA0, zLo_I2 hlo hA1, hT, hN0, hS0, hS1, hS2, hS3, e1, e2, rfl, e4, e5⟩
      · unfold p_X5_spots
        rw [h1, zbs, if_neg z1n0, h5, zbs, if_neg z1n0, ha, zbs]
        (repeat' split) <;> rfl
      · unfold p_X6_spots
        have e : (10 : Int32) + nI i = nI (0 + 10 + i) := by rw [zi10, nI_add]
        rw [h2, zbs, if_neg z1n0, h6, zbs, if_neg z1n0, hb, e, z_get_n (by omega) (by decide), zbs, zbs, z_set_n (by omega) (by decide), zbs]
        (repeat' split) <;> rfl
      · try dsimp only
        rw [a1, a2, b1, b2]
    · refine ⟨(-1, T_draws, T_foot, T_point, T_stiff, T_bears, T_year, T_traits), (-1, m_state, m_pointBy), ?_, ?_, rfl, hR0⟩
      · unfold p_X5_spots; rw [h1, zbs, if_neg z1n0, h5, zbs, if_pos rfl]
      · unfold p_X6_spots; rw [h2, zbs, if_neg z1n0, h6, zbs, if_pos rfl]
  · refine ⟨(-1, T_draws, T_foot, T_point, T_stiff, T_bears, T_year, T_traits), (-1, m_state, m_pointBy), ?_, ?_, rfl, hR0⟩
    · unfold p_X5_spots; rw [h1, zbs, if_pos rfl]
    · unfold p_X6_spots; rw [h2, zbs, if_pos rfl]
