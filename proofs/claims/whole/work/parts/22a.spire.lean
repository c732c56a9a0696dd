theorem iw_X5_feed_X5 : ∀ w ∈ wsX50, w ∈ wsX5_feed := fun _ h => List.mem_cons_of_mem _ (List.mem_append_left _ (List.mem_append_right _ h))
set_option maxHeartbeats 4000000 in
set_option maxRecDepth 100000 in
theorem c_X5_feed (l : Launch) (G : va_G) (k : Nat → ClassId) (tL tM : Nat) (sK sV : Nat → Nat) (a_x : Nat) (a_L : Nat) (a_T : Nat) (a_x_images : Nat) (a_x_kept : Nat) (a_P : Nat) (a_N : Nat) (a_D : Nat) (a_x_sheets : Nat) (a_x_points : Nat) (a_x_tally : Nat) (a_P_bytes : Nat) (sz : Nat) (x_textFault : Int32) (x_readFault : Int32) (P_length : Int32) (P_place : Int32) (P_token : Int32) (P_tokenPlace : Int32) (P_number : Int32) (P_told : Int32) (P_fault : Int32) (P_faultPlace : Int32) (P_bytes : Nat → Int32) (u1 : Int32) (out : Int32 × Int32 × (Nat → Int32)) (h : p_X5_feed u1 P_length P_bytes = some out) : zMi l yX5_feed wsX5_feed 1 22 G k tL tM sK sV [.ref a_x, .int u1] [(a_x, .inr (5, [.ref a_L, .ref a_T, .ref a_x_images, .ref a_x_kept, .ref a_P, .ref a_N, .ref a_D, .ref a_x_sheets, .ref a_x_points, .ref a_x_tally, .int x_textFault, .int x_readFault])), (a_P, .inr (3, [.ref a_P_bytes, .int P_length, .int P_place, .int P_token, .int P_tokenPlace, .int P_number, .int P_told, .int P_fault, .int P_faultPlace])), (a_P_bytes, .inl (k 1, 160, .inl P_bytes))] [(a_x, .inr (5, [.ref a_L, .ref a_T, .ref a_x_images, .ref a_x_kept, .ref a_P, .ref a_N, .ref a_D, .ref a_x_sheets, .ref a_x_points, .ref a_x_tally, .int x_textFault, .int x_readFault])), (a_P, .inr (3, [.ref a_P_bytes, .int out.2.1, .int P_place, .int P_token, .int P_tokenPlace, .int P_number, .int P_told, .int P_fault, .int P_faultPlace])), (a_P_bytes, .inl (k 1, 160, .inl out.2.2))] out.1 sz := by
  refine z_meti (cc := cX5_feed) (maxL := 2) (by decide) rfl (Nat.le_of_ble_eq_true rfl) ?_
  intro p e s m below meth c A Q H locs ls hx hb hml hts hown hA hK hE hret hP hD hS hl
  have hown : s.vm.findClass RX5 = some m.cls := hown
  have hl : lv_has ls 2 [(0, .ref a_x), (1, .int u1)] := hl
  unfold p_X5_feed at h
  refine lv_iload_n hx hb dX5_feed_0 rfl (lv_at hl 1 rfl) ?_
  refine lv_iconst (v := 0) hx hb dX5_feed_1 (by decide) ?_
  refine lv_bipush (v := 127) hx hb dX5_feed_2 (by decide) ?_
  obtain ⟨o1, hv, h⟩ := zb h
  refine z_goi (w2 := [(a_x, .inr (5, [.ref a_L, .ref a_T, .ref a_x_images, .ref a_x_kept, .ref a_P, .ref a_N, .ref a_D, .ref a_x_sheets, .ref a_x_points, .ref a_x_tally, .int x_textFault, .int x_readFault])), (a_P, .inr (3, [.ref a_P_bytes, .int P_length, .int P_place, .int P_token, .int P_tokenPlace, .int P_number, .int P_told, .int P_fault, .int P_faultPlace])), (a_P_bytes, .inl (k 1, 160, .inl P_bytes))]) [] (va_runS (As := [.int u1, .int (0 : Int32), .int (127 : Int32)]) (rest := []) ⟨hx, hb, hml, hown, hts⟩ (c_X5_within l G k tL tM sK sV H.size u1 (0 : Int32) (127 : Int32) o1 hv) (va_cwS 3 hts gX5_feed_X5_within rfl rfl rfl (by decide +kernel) ⟨Nat.le_of_ble_eq_true rfl, Nat.le_of_ble_eq_true rfl⟩) (z_preS (wc := []) [] hK hE hA hP hD hS (by decide) rfl) rfl rfl hl.1 rfl (lv_room (Nat.le_of_ble_eq_true rfl)) dX5_feed_4 ⟨Nat.le_refl _, Nat.le_refl _⟩) hA hP hD hS rfl rfl rfl rfl (fun H locs hP hD hS => ?_)
  refine lv_if_ne (tgt := 12) hx hb dX5_feed_7 (by decide) (fun c3 => ?_) (fun c3 => ?_)
  · have h := zif c3 h
    refine lv_aload_n hx hb dX5_feed_12 rfl (lv_at hl 0 rfl) ?_
    refine va_get (D := G) (ci := 5) (v := .ref a_P) (C := RX5) (T := TX5) (N := 12) hx hb hts iw_X5_feed_X5 hown hK hP 0 rfl rfl 4 (by decide) (hts (.fieldLink RX5 30 "SpireLean" "tape" "LSpireLean$Tape;") (List.mem_of_getElem? (i := 1) rfl)) (fun _ h9 => h9) rfl dX5_feed_13 ?_
    refine lv_iload_n hx hb dX5_feed_16 rfl (lv_at hl 1 rfl) ?_
    obtain ⟨o2, hv, h⟩ := zb h
    refine z_goi (w2 := [(a_x, .inr (5, [.ref a_L, .ref a_T, .ref a_x_images, .ref a_x_kept, .ref a_P, .ref a_N, .ref a_D, .ref a_x_sheets, .ref a_x_points, .ref a_x_tally, .int x_textFault, .int x_readFault])), (a_P, .inr (3, [.ref a_P_bytes, .int o2.2.1, .int P_place, .int P_token, .int P_tokenPlace, .int P_number, .int P_told, .int P_fault, .int P_faultPlace])), (a_P_bytes, .inl (k 1, 160, .inl o2.2.2))]) [1, 2] (va_runVN (As := [.int u1]) (rest := []) ⟨hx, hb, hml, hown, hts⟩ (c_X3_append l G k tL tM sK sV a_P a_P_bytes H.size P_length P_place P_token P_tokenPlace P_number P_told P_fault P_faultPlace P_bytes u1 o2 hv) ⟨va_cnB 1 hts gX5_feed_X3_append_n66 rfl rfl rfl (hE.1 (.methodLinkNest RX5 66 yX3_append "SpireLean") (List.mem_of_getElem? (i := 29) rfl)) (hts (.initialized RX3) (List.mem_of_getElem? (i := 7) rfl)) (by decide +kernel) ⟨Nat.le_of_ble_eq_true rfl, Nat.le_of_ble_eq_true rfl⟩, (hts (.instanceMethod yX3_append) (List.mem_of_getElem? (i := 6) rfl)), (hts (.selects RX3 yX3_append yX3_append) (List.mem_of_getElem? (i := 8) rfl))⟩ (z_preV (wc := [(a_P, .inr (3, [.ref a_P_bytes, .int P_length, .int P_place, .int P_token, .int P_tokenPlace, .int P_number, .int P_told, .int P_fault, .int P_faultPlace])), (a_P_bytes, .inl (k 1, 160, .inl P_bytes))]) [1, 2] 1 3 hK hE hA hP hD hS (by decide) rfl rfl rfl) rfl rfl hl.1 rfl (lv_room (Nat.le_of_ble_eq_true rfl)) dX5_feed_17 ⟨Nat.le_refl _, Nat.le_refl _⟩) hA hP hD hS rfl rfl rfl rfl (fun H locs hP hD hS => ?_)
    have hr := (zs h)
    subst hr
    exact hret H locs ls 20 hP hS dX5_feed_20
  · have h := zit c3 h
    refine lv_iconst (v := (-1)) hx hb dX5_feed_10 (by decide) ?_
    have hr := (zs h)
    subst hr
    exact hret H locs ls 11 hP hS dX5_feed_11
theorem iw_X5_end_X3 : ∀ w ∈ wsX30, w ∈ wsX5_end := fun _ h => List.mem_cons_of_mem _ (List.mem_append_right _ h)
theorem iw_X5_end_X5 : ∀ w ∈ wsX50, w ∈ wsX5_end := fun _ h => List.mem_cons_of_mem _ (List.mem_append_left _ (List.mem_append_right _ h))
set_option maxHeartbeats 4000000 in
set_option maxRecDepth 100000 in
theorem c_X5_end (l : Launch) (G : va_G) (k : Nat → ClassId) (tL tM : Nat) (sK sV : Nat → Nat) (a_x : Nat) (a_L : Nat) (a_T : Nat) (a_x_images : Nat) (a_x_kept : Nat) (a_P : Nat) (a_N : Nat) (a_D : Nat) (a_x_sheets : Nat) (a_x_points : Nat) (a_x_tally : Nat) (a_P_bytes : Nat) (sz : Nat) (x_textFault : Int32) (x_readFault : Int32) (P_length : Int32) (P_place : Int32) (P_token : Int32) (P_tokenPlace : Int32) (P_number : Int32) (P_told : Int32) (P_fault : Int32) (P_faultPlace : Int32) (u1 : Int32) (out : Int32 × Int32) (h : p_X5_end u1 P_length = some out) : zMi l yX5_end wsX5_end 1 22 G k tL tM sK sV [.ref a_x, .int u1] [(a_x, .inr (5, [.ref a_L, .ref a_T, .ref a_x_images, .ref a_x_kept, .ref a_P, .ref a_N, .ref a_D, .ref a_x_sheets, .ref a_x_points, .ref a_x_tally, .int x_textFault, .int x_readFault])), (a_P, .inr (3, [.ref a_P_bytes, .int P_length, .int P_place, .int P_token, .int P_tokenPlace, .int P_number, .int P_told, .int P_fault, .int P_faultPlace]))] [(a_x, .inr (5, [.ref a_L, .ref a_T, .ref a_x_images, .ref a_x_kept, .ref a_P, .ref a_N, .ref a_D, .ref a_x_sheets, .ref a_x_points, .ref a_x_tally, .int x_textFault, .int x_readFault])), (a_P, .inr (3, [.ref a_P_bytes, .int out.2, .int P_place, .int P_token, .int P_tokenPlace, .int P_number, .int P_told, .int P_fault, .int P_faultPlace]))] out.1 sz := by
  refine z_meti (cc := cX5_end) (maxL := 3) (by decide) rfl (Nat.le_of_ble_eq_true rfl) ?_
  intro p e s m below meth c A Q H locs ls hx hb hml hts hown hA hK hE hret hP hD hS hl
  have hown : s.vm.findClass RX5 = some m.cls := hown
  have hl : lv_has ls 3 [(0, .ref a_x), (1, .int u1)] := hl
  unfold p_X5_end at h
  refine lv_aload_n hx hb dX5_end_0 rfl (lv_at hl 0 rfl) ?_
  refine va_get (D := G) (ci := 5) (v := .ref a_P) (C := RX5) (T := TX5) (N := 12) hx hb hts iw_X5_end_X5 hown hK hP 0 rfl rfl 4 (by decide) (hts (.fieldLink RX5 30 "SpireLean" "tape" "LSpireLean$Tape;") (List.mem_of_getElem? (i := 1) rfl)) (fun _ h9 => h9) rfl dX5_end_1 ?_
  refine va_getN (D := G) (ci := 3) (v := .int P_length) (C := RX3) (T := TX3) (N := 9) hx hb hts iw_X5_end_X3 hown hK hP 1 rfl rfl 1 (by decide) (va_Nw.use rfl (hE.1 (.fieldLinkNest RX5 70 "SpireLean$Tape" "length" "I" "SpireLean") (List.mem_of_getElem? (i := 13) rfl))) (fun _ h9 => h9) rfl dX5_end_4 ?_
  refine lv_istore_n (lv' := [(2, .int P_length), (0, .ref a_x), (1, .int u1)]) hx hb dX5_end_7 rfl hl (by decide) rfl (fun ls hl => ?_)
  refine lv_iload_n hx hb dX5_end_8 rfl (lv_at hl 2 rfl) ?_
  refine lv_iconst (v := 0) hx hb dX5_end_9 (by decide) ?_
  refine lv_iload_n hx hb dX5_end_10 rfl (lv_at hl 0 rfl) ?_
  obtain ⟨o1, hv, h⟩ := zb h
  refine z_goi (w2 := [(a_x, .inr (5, [.ref a_L, .ref a_T, .ref a_x_images, .ref a_x_kept, .ref a_P, .ref a_N, .ref a_D, .ref a_x_sheets, .ref a_x_points, .ref a_x_tally, .int x_textFault, .int x_readFault])), (a_P, .inr (3, [.ref a_P_bytes, .int P_length, .int P_place, .int P_token, .int P_tokenPlace, .int P_number, .int P_told, .int P_fault, .int P_faultPlace]))]) [] (va_runS (As := [.int u1, .int (0 : Int32), .int P_length]) (rest := []) ⟨hx, hb, hml, hown, hts⟩ (c_X5_within l G k tL tM sK sV H.size u1 (0 : Int32) P_length o1 hv) (va_cwS 3 hts gX5_end_X5_within rfl rfl rfl (by decide +kernel) ⟨Nat.le_of_ble_eq_true rfl, Nat.le_of_ble_eq_true rfl⟩) (z_preS (wc := []) [] hK hE hA hP hD hS (by decide) rfl) rfl rfl hl.1 rfl (lv_room (Nat.le_of_ble_eq_true rfl)) dX5_end_11 ⟨Nat.le_refl _, Nat.le_refl _⟩) hA hP hD hS rfl rfl rfl rfl (fun H locs hP hD hS => ?_)
  refine lv_if_ne (tgt := 19) hx hb dX5_end_14 (by decide) (fun c2 => ?_) (fun c2 => ?_)
  · have h := zif c2 h
    refine lv_aload_n hx hb dX5_end_19 rfl (lv_at hl 1 rfl) ?_
    refine va_get (D := G) (ci := 5) (v := .ref a_P) (C := RX5) (T := TX5) (N := 12) hx hb hts iw_X5_end_X5 hown hK hP 0 rfl rfl 4 (by decide) (hts (.fieldLink RX5 30 "SpireLean" "tape" "LSpireLean$Tape;") (List.mem_of_getElem? (i := 1) rfl)) (fun _ h9 => h9) rfl dX5_end_20 ?_
    refine lv_iload_n hx hb dX5_end_23 rfl (lv_at hl 2 rfl) ?_
    refine va_putN (D := G) (ci := 3) (v := .int u1) (ty := .int) (C := RX3) (T := TX3) (N := 9) hx hb hts iw_X5_end_X3 tyX3 tyX3_ok nmX3 hown hK hP hD hS 1 rfl rfl 1 (by decide) (va_Nw.use rfl (hE.1 (.fieldLinkNest RX5 70 "SpireLean$Tape" "length" "I" "SpireLean") (List.mem_of_getElem? (i := 13) rfl))) (fun _ h9 => h9) rfl (tyX3_ok 1 (by decide)) rfl rfl (Nat.le_of_ble_eq_true rfl) dX5_end_24 (fun H locs hP hD hS => ?_)
    have hP : va_P G vwCl [(a_x, .inr (5, [.ref a_L, .ref a_T, .ref a_x_images, .ref a_x_kept, .ref a_P, .ref a_N, .ref a_D, .ref a_x_sheets, .ref a_x_points, .ref a_x_tally, .int x_textFault, .int x_readFault])), (a_P, .inr (3, [.ref a_P_bytes, .int u1, .int P_place, .int P_token, .int P_tokenPlace, .int P_number, .int P_told, .int P_fault, .int P_faultPlace]))] H := hP
    have hD : va_D A [(a_x, .inr (5, [.ref a_L, .ref a_T, .ref a_x_images, .ref a_x_kept, .ref a_P, .ref a_N, .ref a_D, .ref a_x_sheets, .ref a_x_points, .ref a_x_tally, .int x_textFault, .int x_readFault])), (a_P, .inr (3, [.ref a_P_bytes, .int u1, .int P_place, .int P_token, .int P_tokenPlace, .int P_number, .int P_told, .int P_fault, .int P_faultPlace]))] := hD
    refine lv_iload_n hx hb dX5_end_27 rfl (lv_at hl 0 rfl) ?_
    have hr := (zs h)
    subst hr
    exact hret H locs ls 28 hP hS dX5_end_28
  · have h := zit c2 h
    refine lv_iconst (v := (-1)) hx hb dX5_end_17 (by decide) ?_
    have hr := (zs h)
    subst hr
    exact hret H locs ls 18 hP hS dX5_end_18
theorem iw_X5_text_X2 : ∀ w ∈ wsX20, w ∈ wsX5_text := fun _ h => List.mem_cons_of_mem _ (List.mem_append_left _ (List.mem_append_right _ h))
theorem iw_X5_text_X3 : ∀ w ∈ wsX30, w ∈ wsX5_text := fun _ h => List.mem_cons_of_mem _ (List.mem_append_left _ (List.mem_append_left _ (List.mem_append_right _ h)))
theorem iw_X5_text_X5 : ∀ w ∈ wsX50, w ∈ wsX5_text := fun _ h => List.mem_cons_of_mem _ (List.mem_append_left _ (List.mem_append_left _ (List.mem_append_left _ (List.mem_append_right _ h))))
set_option maxHeartbeats 4000000 in
set_option maxRecDepth 100000 in
theorem c_X5_text (l : Launch) (G : va_G) (k : Nat → ClassId) (tL tM : Nat) (sK sV : Nat → Nat) (a_x : Nat) (a_L : Nat) (a_T : Nat) (a_x_images : Nat) (a_x_kept : Nat) (a_P : Nat) (a_N : Nat) (a_D : Nat) (a_x_sheets : Nat) (a_x_points : Nat) (a_x_tally : Nat) (a_L_traits : Nat) (a_T_traits : Nat) (a_P_bytes : Nat) (a_N_years : Nat) (a_N_cells : Nat) (sz : Nat) (x_textFault : Int32) (x_readFault : Int32) (L_draws : Int32) (L_foot : Int32) (L_point : Int32) (L_stiff : Int32) (L_bears : Int32) (L_year : Int32) (L_traits : Nat → Int32) (T_draws : Int32) (T_foot : Int32) (T_point : Int32) (T_stiff : Int32) (T_bears : Int32) (T_year : Int32) (T_traits : Nat → Int32) (x_kept : Nat → Int32) (P_length : Int32) (P_place : Int32) (P_token : Int32) (P_tokenPlace : Int32) (P_number : Int32) (P_told : Int32) (P_fault : Int32) (P_faultPlace : Int32) (P_bytes : Nat → Int32) (N_size : Int32) (out : Int32 × Int32 × Int32 × Int32 × Int32 × Int32 × Int32 × Int32 × (Nat → Int32) × Int32 × Int32 × Int32 × Int32 × Int32 × Int32 × (Nat → Int32) × (Nat → Int32) × Int32 × Int32 × Int32 × Int32 × Int32 × Int32 × Int32 × Int32 × Int32) (h : p_X5_text L_draws L_foot L_point L_stiff L_bears L_year L_traits T_traits x_kept P_length P_token P_tokenPlace P_number P_bytes N_size = some out) : zMi l yX5_text wsX5_text 7 151 G k tL tM sK sV [.ref a_x] [(a_x, .inr (5, [.ref a_L, .ref a_T, .ref a_x_images, .ref a_x_kept, .ref a_P, .ref a_N, .ref a_D, .ref a_x_sheets, .ref a_x_points, .ref a_x_tally, .int x_textFault, .int x_readFault])), (a_L, .inr (4, [.ref a_L_traits, .int L_draws, .int L_foot, .int L_point, .int L_stiff, .int L_bears, .int L_year])), (a_L_traits, .inl (k 0, 20, .inl L_traits)), (a_T, .inr (4, [.ref a_T_traits, .int T_draws, .int T_foot, .int T_point, .int T_stiff, .int T_bears, .int T_year])), (a_T_traits, .inl (k 0, 20, .inl T_traits)), (a_x_kept, .inl (k 3, 2, .inl x_kept)), (a_P, .inr (3, [.ref a_P_bytes, .int P_length, .int P_place, .int P_token, .int P_tokenPlace, .int P_number, .int P_told, .int P_fault, .int P_faultPlace])), (a_P_bytes, .inl (k 1, 160, .inl P_bytes)), (a_N, .inr (2, [.ref a_N_years, .ref a_N_cells, .int N_size]))] [(a_x, .inr (5, [.ref a_L, .ref a_T, .ref a_x_images, .ref a_x_kept, .ref a_P, .ref a_N, .ref a_D, .ref a_x_sheets, .ref a_x_points, .ref a_x_tally, .int out.2.1, .int x_readFault])), (a_L, .inr (4, [.ref a_L_traits, .int out.2.2.1, .int out.2.2.2.1, .int out.2.2.2.2.1, .int out.2.2.2.2.2.1, .int out.2.2.2.2.2.2.1, .int out.2.2.2.2.2.2.2.1])), (a_L_traits, .inl (k 0, 20, .inl out.2.2.2.2.2.2.2.2.1)), (a_T, .inr (4, [.ref a_T_traits, .int out.2.2.2.2.2.2.2.2.2.1, .int out.2.2.2.2.2.2.2.2.2.2.1, .int out.2.2.2.2.2.2.2.2.2.2.2.1, .int out.2.2.2.2.2.2.2.2.2.2.2.2.1, .int out.2.2.2.2.2.2.2.2.2.2.2.2.2.1, .int out.2.2.2.2.2.2.2.2.2.2.2.2.2.2.1])), (a_T_traits, .inl (k 0, 20, .inl out.2.2.2.2.2.2.2.2.2.2.2.2.2.2.2.1)), (a_x_kept, .inl (k 3, 2, .inl out.2.2.2.2.2.2.2.2.2.2.2.2.2.2.2.2.1)), (a_P, .inr (3, [.ref a_P_bytes, .int out.2.2.2.2.2.2.2.2.2.2.2.2.2.2.2.2.2.1, .int out.2.2.2.2.2.2.2.2.2.2.2.2.2.2.2.2.2.2.1, .int out.2.2.2.2.2.2.2.2.2.2.2.2.2.2.2.2.2.2.2.1, .int out.2.2.2.2.2.2.2.2.2.2.2.2.2.2.2.2.2.2.2.2.1, .int out.2.2.2.2.2.2.2.2.2.2.2.2.2.2.2.2.2.2.2.2.2.1, .int out.2.2.2.2.2.2.2.2.2.2.2.2.2.2.2.2.2.2.2.2.2.2.1, .int out.2.2.2.2.2.2.2.2.2.2.2.2.2.2.2.2.2.2.2.2.2.2.2.1, .int out.2.2.2.2.2.2.2.2.2.2.2.2.2.2.2.2.2.2.2.2.2.2.2.2.1])), (a_P_bytes, .inl (k 1, 160, .inl P_bytes)), (a_N, .inr (2, [.ref a_N_years, .ref a_N_cells, .int out.2.2.2.2.2.2.2.2.2.2.2.2.2.2.2.2.2.2.2.2.2.2.2.2.2]))] out.1 sz := by
  refine z_meti (cc := cX5_text) (maxL := 3) (by decide) rfl (Nat.le_of_ble_eq_true rfl) ?_
  intro p e s m below meth c A Q H locs ls hx hb hml hts hown hA hK hE hret hP hD hS hl
  have hown : s.vm.findClass RX5 = some m.cls := hown
  have hl : lv_has ls 3 [(0, .ref a_x)] := hl
  unfold p_X5_text at h
  refine lv_aload_n hx hb dX5_text_0 rfl (lv_at hl 0 rfl) ?_
  refine va_get (D := G) (ci := 5) (v := .ref a_T) (C := RX5) (T := TX5) (N := 12) hx hb hts iw_X5_text_X5 hown hK hP 0 rfl rfl 1 (by decide) (hts (.fieldLink RX5 16 "SpireLean" "trial" "LSpireLean$Town;") (List.mem_of_getElem? (i := 1) rfl)) (fun _ h9 => h9) rfl dX5_text_1 ?_
  obtain ⟨o1, hv, h⟩ := zb h
  refine z_gov (w2 := [(a_x, .inr (5, [.ref a_L, .ref a_T, .ref a_x_images, .ref a_x_kept, .ref a_P, .ref a_N, .ref a_D, .ref a_x_sheets, .ref a_x_points, .ref a_x_tally, .int x_textFault, .int x_readFault])), (a_L, .inr (4, [.ref a_L_traits, .int L_draws, .int L_foot, .int L_point, .int L_stiff, .int L_bears, .int L_year])), (a_L_traits, .inl (k 0, 20, .inl L_traits)), (a_T, .inr (4, [.ref a_T_traits, .int o1.1, .int o1.2.1, .int o1.2.2.1, .int o1.2.2.2.1, .int o1.2.2.2.2.1, .int o1.2.2.2.2.2])), (a_T_traits, .inl (k 0, 20, .inl T_traits)), (a_x_kept, .inl (k 3, 2, .inl x_kept)), (a_P, .inr (3, [.ref a_P_bytes, .int P_length, .int P_place, .int P_token, .int P_tokenPlace, .int P_number, .int P_told, .int P_fault, .int P_faultPlace])), (a_P_bytes, .inl (k 1, 160, .inl P_bytes)), (a_N, .inr (2, [.ref a_N_years, .ref a_N_cells, .int N_size]))]) [3] (va_runVN (As := []) (rest := []) ⟨hx, hb, hml, hown, hts⟩ (c_X4_clear l G k tL tM sK sV a_T a_T_traits H.size T_draws T_foot T_point T_stiff T_bears T_year o1 hv) ⟨va_cnB 0 hts gX5_text_X4_clear_n74 rfl rfl rfl (hE.1 (.methodLinkNest RX5 74 yX4_clear "SpireLean") (List.mem_of_getElem? (i := 30) rfl)) (hts (.initialized RX4) (List.mem_of_getElem? (i := 8) rfl)) (by decide +kernel) ⟨Nat.le_of_ble_eq_true rfl, Nat.le_of_ble_eq_true rfl⟩, (hts (.instanceMethod yX4_clear) (List.mem_of_getElem? (i := 7) rfl)), (hts (.selects RX4 yX4_clear yX4_clear) (List.mem_of_getElem? (i := 9) rfl))⟩ (z_preV (wc := [(a_T, .inr (4, [.ref a_T_traits, .int T_draws, .int T_foot, .int T_point, .int T_stiff, .int T_bears, .int T_year]))]) [3] 3 4 hK hE hA hP hD hS (by decide) rfl rfl rfl) rfl rfl hl.1 rfl (lv_room (Nat.le_of_ble_eq_true rfl)) dX5_text_4 ⟨Nat.le_refl _, Nat.le_refl _⟩) hA hP hD hS rfl rfl rfl rfl (fun H locs hP hD hS => ?_)
  refine lv_aload_n hx hb dX5_text_7 rfl (lv_at hl 0 rfl) ?_
  refine va_get (D := G) (ci := 5) (v := .ref a_P) (C := RX5) (T := TX5) (N := 12) hx hb hts iw_X5_text_X5 hown hK hP 0 rfl rfl 4 (by decide) (hts (.fieldLink RX5 30 "SpireLean" "tape" "LSpireLean$Tape;") (List.mem_of_getElem? (i := 2) rfl)) (fun _ h9 => h9) rfl dX5_text_8 ?_
  refine lv_aload_n hx hb dX5_text_11 rfl (lv_at hl 0 rfl) ?_
  refine va_get (D := G) (ci := 5) (v := .ref a_T) (C := RX5) (T := TX5) (N := 12) hx hb hts iw_X5_text_X5 hown hK hP 0 rfl rfl 1 (by decide) (hts (.fieldLink RX5 16 "SpireLean" "trial" "LSpireLean$Town;") (List.mem_of_getElem? (i := 1) rfl)) (fun _ h9 => h9) rfl dX5_text_12 ?_
  obtain ⟨o2, hv, h⟩ := zb h
  refine z_goi (w2 := [(a_x, .inr (5, [.ref a_L, .ref a_T, .ref a_x_images, .ref a_x_kept, .ref a_P, .ref a_N, .ref a_D, .ref a_x_sheets, .ref a_x_points, .ref a_x_tally, .int x_textFault, .int x_readFault])), (a_L, .inr (4, [.ref a_L_traits, .int L_draws, .int L_foot, .int L_point, .int L_stiff, .int L_bears, .int L_year])), (a_L_traits, .inl (k 0, 20, .inl L_traits)), (a_T, .inr (4, [.ref a_T_traits, .int o2.2.2.2.2.2.2.2.2.1, .int o2.2.2.2.2.2.2.2.2.2.1, .int o2.2.2.2.2.2.2.2.2.2.2.1, .int o2.2.2.2.2.2.2.2.2.2.2.2.1, .int o2.2.2.2.2.2.2.2.2.2.2.2.2.1, .int o1.2.2.2.2.2])), (a_T_traits, .inl (k 0, 20, .inl o2.2.2.2.2.2.2.2.2.2.2.2.2.2)), (a_x_kept, .inl (k 3, 2, .inl x_kept)), (a_P, .inr (3, [.ref a_P_bytes, .int P_length, .int o2.2.1, .int o2.2.2.1, .int o2.2.2.2.1, .int o2.2.2.2.2.1, .int o2.2.2.2.2.2.1, .int o2.2.2.2.2.2.2.1, .int o2.2.2.2.2.2.2.2.1])), (a_P_bytes, .inl (k 1, 160, .inl P_bytes)), (a_N, .inr (2, [.ref a_N_years, .ref a_N_cells, .int N_size]))]) [6, 7, 3, 4] (va_runVN (As := [.ref a_T]) (rest := []) ⟨hx, hb, hml, hown, hts⟩ (c_X3_tellTo l G k tL tM sK sV a_P a_P_bytes a_T a_T_traits H.size P_length P_place P_token P_tokenPlace P_number P_told P_fault P_faultPlace P_bytes o1.1 o1.2.1 o1.2.2.1 o1.2.2.2.1 o1.2.2.2.2.1 o1.2.2.2.2.2 T_traits o2 hv) ⟨va_cnB 1 hts gX5_text_X3_tellTo_n77 rfl rfl rfl (hE.1 (.methodLinkNest RX5 77 yX3_tellTo "SpireLean") (List.mem_of_getElem? (i := 31) rfl)) (hts (.initialized RX3) (List.mem_of_getElem? (i := 18) rfl)) (by decide +kernel) ⟨Nat.le_of_ble_eq_true rfl, Nat.le_of_ble_eq_true rfl⟩, (hts (.instanceMethod yX3_tellTo) (List.mem_of_getElem? (i := 17) rfl)), (hts (.selects RX3 yX3_tellTo yX3_tellTo) (List.mem_of_getElem? (i := 19) rfl))⟩ (z_preV (wc := [(a_P, .inr (3, [.ref a_P_bytes, .int P_length, .int P_place, .int P_token, .int P_tokenPlace, .int P_number, .int P_told, .int P_fault, .int P_faultPlace])), (a_P_bytes, .inl (k 1, 160, .inl P_bytes)), (a_T, .inr (4, [.ref a_T_traits, .int o1.1, .int o1.2.1, .int o1.2.2.1, .int o1.2.2.2.1, .int o1.2.2.2.2.1, .int o1.2.2.2.2.2])), (a_T_traits, .inl (k 0, 20, .inl T_traits))]) [6, 7, 3, 4] 6 3 hK hE hA hP hD hS (by decide) rfl rfl rfl) rfl rfl hl.1 rfl (lv_room (Nat.le_of_ble_eq_true rfl)) dX5_text_15 ⟨Nat.le_refl _, Nat.le_refl _⟩) hA hP hD hS rfl rfl rfl rfl (fun H locs hP hD hS => ?_)
  refine lv_istore_n (lv' := [(1, .int o2.1), (0, .ref a_x)]) hx hb dX5_text_18 rfl hl (by decide) rfl (fun ls hl => ?_)
  refine lv_aload_n hx hb dX5_text_19 rfl (lv_at hl 1 rfl) ?_
  refine va_get (D := G) (ci := 5) (v := .ref a_P) (C := RX5) (T := TX5) (N := 12) hx hb hts iw_X5_text_X5 hown hK hP 0 rfl rfl 4 (by decide) (hts (.fieldLink RX5 30 "SpireLean" "tape" "LSpireLean$Tape;") (List.mem_of_getElem? (i := 2) rfl)) (fun _ h9 => h9) rfl dX5_text_20 ?_
  refine lv_iconst (v := 0) hx hb dX5_text_23 (by decide) ?_
  refine va_putN (D := G) (ci := 3) (v := .int (0 : Int32)) (ty := .int) (C := RX3) (T := TX3) (N := 9) hx hb hts iw_X5_text_X3 tyX3 tyX3_ok nmX3 hown hK hP hD hS 6 rfl rfl 1 (by decide) (va_Nw.use rfl (hE.1 (.fieldLinkNest RX5 70 "SpireLean$Tape" "length" "I" "SpireLean") (List.mem_of_getElem? (i := 13) rfl))) (fun _ h9 => h9) rfl (tyX3_ok 1 (by decide)) rfl rfl (Nat.le_of_ble_eq_true rfl) dX5_text_24 (fun H locs hP hD hS => ?_)
  have hP : va_P G vwCl [(a_x, .inr (5, [.ref a_L, .ref a_T, .ref a_x_images, .ref a_x_kept, .ref a_P, .ref a_N, .ref a_D, .ref a_x_sheets, .ref a_x_points, .ref a_x_tally, .int x_textFault, .int x_readFault])), (a_L, .inr (4, [.ref a_L_traits, .int L_draws, .int L_foot, .int L_point, .int L_stiff, .int L_bears, .int L_year])), (a_L_traits, .inl (k 0, 20, .inl L_traits)), (a_T, .inr (4, [.ref a_T_traits, .int o2.2.2.2.2.2.2.2.2.1, .int o2.2.2.2.2.2.2.2.2.2.1, .int o2.2.2.2.2.2.2.2.2.2.2.1, .int o2.2.2.2.2.2.2.2.2.2.2.2.1, .int o2.2.2.2.2.2.2.2.2.2.2.2.2.1, .int o1.2.2.2.2.2])), (a_T_traits, .inl (k 0, 20, .inl o2.2.2.2.2.2.2.2.2.2.2.2.2.2)), (a_x_kept, .inl (k 3, 2, .inl x_kept)), (a_P, .inr (3, [.ref a_P_bytes, .int (0 : Int32), .int o2.2.1, .int o2.2.2.1, .int o2.2.2.2.1, .int o2.2.2.2.2.1, .int o2.2.2.2.2.2.1, .int o2.2.2.2.2.2.2.1, .int o2.2.2.2.2.2.2.2.1])), (a_P_bytes, .inl (k 1, 160, .inl P_bytes)), (a_N, .inr (2, [.ref a_N_years, .ref a_N_cells, .int N_size]))] H := hP
  have hD : va_D A [(a_x, .inr (5, [.ref a_L, .ref a_T, .ref a_x_images, .ref a_x_kept, .ref a_P, .ref a_N, .ref a_D, .ref a_x_sheets, .ref a_x_points, .ref a_x_tally, .int x_textFault, .int x_readFault])), (a_L, .inr (4, [.ref a_L_traits, .int L_draws, .int L_foot, .int L_point, .int L_stiff, .int L_bears, .int L_year])), (a_L_traits, .inl (k 0, 20, .inl L_traits)), (a_T, .inr (4, [.ref a_T_traits, .int o2.2.2.2.2.2.2.2.2.1, .int o2.2.2.2.2.2.2.2.2.2.1, .int o2.2.2.2.2.2.2.2.2.2.2.1, .int o2.2.2.2.2.2.2.2.2.2.2.2.1, .int o2.2.2.2.2.2.2.2.2.2.2.2.2.1, .int o1.2.2.2.2.2])), (a_T_traits, .inl (k 0, 20, .inl o2.2.2.2.2.2.2.2.2.2.2.2.2.2)), (a_x_kept, .inl (k 3, 2, .inl x_kept)), (a_P, .inr (3, [.ref a_P_bytes, .int (0 : Int32), .int o2.2.1, .int o2.2.2.1, .int o2.2.2.2.1, .int o2.2.2.2.2.1, .int o2.2.2.2.2.2.1, .int o2.2.2.2.2.2.2.1, .int o2.2.2.2.2.2.2.2.1])), (a_P_bytes, .inl (k 1, 160, .inl P_bytes)), (a_N, .inr (2, [.ref a_N_years, .ref a_N_cells, .int N_size]))] := hD
  refine lv_aload_n hx hb dX5_text_27 rfl (lv_at hl 1 rfl) ?_
  refine lv_aload_n hx hb dX5_text_28 rfl (lv_at hl 1 rfl) ?_
  refine va_get (D := G) (ci := 5) (v := .ref a_P) (C := RX5) (T := TX5) (N := 12) hx hb hts iw_X5_text_X5 hown hK hP 0 rfl rfl 4 (by decide) (hts (.fieldLink RX5 30 "SpireLean" "tape" "LSpireLean$Tape;") (List.mem_of_getElem? (i := 2) rfl)) (fun _ h9 => h9) rfl dX5_text_29 ?_
  refine va_getN (D := G) (ci := 3) (v := .int o2.2.2.2.2.2.2.1) (C := RX3) (T := TX3) (N := 9) hx hb hts iw_X5_text_X3 hown hK hP 6 rfl rfl 7 (by decide) (va_Nw.use rfl (hE.1 (.fieldLinkNest RX5 81 "SpireLean$Tape" "fault" "I" "SpireLean") (List.mem_of_getElem? (i := 14) rfl))) (fun _ h9 => h9) rfl dX5_text_32 ?_
  refine va_put (D := G) (ci := 5) (v := .int o2.2.2.2.2.2.2.1) (ty := .int) (C := RX5) (T := TX5) (N := 12) hx hb hts iw_X5_text_X5 tyX5 tyX5_ok nmX5 hown hK hP hD hS 0 rfl rfl 10 (by decide) (hts (.fieldLink RX5 84 "SpireLean" "textFault" "I") (List.mem_of_getElem? (i := 3) rfl)) (fun _ h9 => h9) rfl (tyX5_ok 10 (by decide)) rfl rfl (Nat.le_of_ble_eq_true rfl) dX5_text_35 (fun H locs hP hD hS => ?_)
  have hP : va_P G vwCl [(a_x, .inr (5, [.ref a_L, .ref a_T, .ref a_x_images, .ref a_x_kept, .ref a_P, .ref a_N, .ref a_D, .ref a_x_sheets, .ref a_x_points, .ref a_x_tally, .int o2.2.2.2.2.2.2.1, .int x_readFault])), (a_L, .inr (4, [.ref a_L_traits, .int L_draws, .int L_foot, .int L_point, .int L_stiff, .int L_bears, .int L_year])), (a_L_traits, .inl (k 0, 20, .inl L_traits)), (a_T, .inr (4, [.ref a_T_traits, .int o2.2.2.2.2.2.2.2.2.1, .int o2.2.2.2.2.2.2.2.2.2.1, .int o2.2.2.2.2.2.2.2.2.2.2.1, .int o2.2.2.2.2.2.2.2.2.2.2.2.1, .int o2.2.2.2.2.2.2.2.2.2.2.2.2.1, .int o1.2.2.2.2.2])), (a_T_traits, .inl (k 0, 20, .inl o2.2.2.2.2.2.2.2.2.2.2.2.2.2)), (a_x_kept, .inl (k 3, 2, .inl x_kept)), (a_P, .inr (3, [.ref a_P_bytes, .int (0 : Int32), .int o2.2.1, .int o2.2.2.1, .int o2.2.2.2.1, .int o2.2.2.2.2.1, .int o2.2.2.2.2.2.1, .int o2.2.2.2.2.2.2.1, .int o2.2.2.2.2.2.2.2.1])), (a_P_bytes, .inl (k 1, 160, .inl P_bytes)), (a_N, .inr (2, [.ref a_N_years, .ref a_N_cells, .int N_size]))] H := hP
  have hD : va_D A [(a_x, .inr (5, [.ref a_L, .ref a_T, .ref a_x_images, .ref a_x_kept, .ref a_P, .ref a_N, .ref a_D, .ref a_x_sheets, .ref a_x_points, .ref a_x_tally, .int o2.2.2.2.2.2.2.1, .int x_readFault])), (a_L, .inr (4, [.ref a_L_traits, .int L_draws, .int L_foot, .int L_point, .int L_stiff, .int L_bears, .int L_year])), (a_L_traits, .inl (k 0, 20, .inl L_traits)), (a_T, .inr (4, [.ref a_T_traits, .int o2.2.2.2.2.2.2.2.2.1, .int o2.2.2.2.2.2.2.2.2.2.1, .int o2.2.2.2.2.2.2.2.2.2.2.1, .int o2.2.2.2.2.2.2.2.2.2.2.2.1, .int o2.2.2.2.2.2.2.2.2.2.2.2.2.1, .int o1.2.2.2.2.2])), (a_T_traits, .inl (k 0, 20, .inl o2.2.2.2.2.2.2.2.2.2.2.2.2.2)), (a_x_kept, .inl (k 3, 2, .inl x_kept)), (a_P, .inr (3, [.ref a_P_bytes, .int (0 : Int32), .int o2.2.1, .int o2.2.2.1, .int o2.2.2.2.1, .int o2.2.2.2.2.1, .int o2.2.2.2.2.2.1, .int o2.2.2.2.2.2.2.1, .int o2.2.2.2.2.2.2.2.1])), (a_P_bytes, .inl (k 1, 160, .inl P_bytes)), (a_N, .inr (2, [.ref a_N_years, .ref a_N_cells, .int N_size]))] := hD
  refine lv_aload_n hx hb dX5_text_38 rfl (lv_at hl 1 rfl) ?_
  refine va_get (D := G) (ci := 5) (v := .int o2.2.2.2.2.2.2.1) (C := RX5) (T := TX5) (N := 12) hx hb hts iw_X5_text_X5 hown hK hP 0 rfl rfl 10 (by decide) (hts (.fieldLink RX5 84 "SpireLean" "textFault" "I") (List.mem_of_getElem? (i := 3) rfl)) (fun _ h9 => h9) rfl dX5_text_39 ?_
  refine lv_if_eq (tgt := 56) hx hb dX5_text_42 (by decide) (fun c12 => ?_) (fun c12 => ?_)
  · have h := zit c12 h
    refine lv_aload_n hx hb dX5_text_56 rfl (lv_at hl 1 rfl) ?_
    refine va_get (D := G) (ci := 5) (v := .ref a_L) (C := RX5) (T := TX5) (N := 12) hx hb hts iw_X5_text_X5 hown hK hP 0 rfl rfl 0 (by decide) (hts (.fieldLink RX5 10 "SpireLean" "live" "LSpireLean$Town;") (List.mem_of_getElem? (i := 4) rfl)) (fun _ h9 => h9) rfl dX5_text_57 ?_
    refine lv_aload_n hx hb dX5_text_60 rfl (lv_at hl 1 rfl) ?_
    refine va_get (D := G) (ci := 5) (v := .ref a_T) (C := RX5) (T := TX5) (N := 12) hx hb hts iw_X5_text_X5 hown hK hP 0 rfl rfl 1 (by decide) (hts (.fieldLink RX5 16 "SpireLean" "trial" "LSpireLean$Town;") (List.mem_of_getElem? (i := 1) rfl)) (fun _ h9 => h9) rfl dX5_text_61 ?_
    obtain ⟨o3, hv, h⟩ := zb h
    refine z_gov (w2 := [(a_x, .inr (5, [.ref a_L, .ref a_T, .ref a_x_images, .ref a_x_kept, .ref a_P, .ref a_N, .ref a_D, .ref a_x_sheets, .ref a_x_points, .ref a_x_tally, .int o2.2.2.2.2.2.2.1, .int x_readFault])), (a_L, .inr (4, [.ref a_L_traits, .int o3.1, .int o3.2.1, .int o3.2.2.1, .int o3.2.2.2.1, .int o3.2.2.2.2.1, .int o3.2.2.2.2.2.1])), (a_L_traits, .inl (k 0, 20, .inl o3.2.2.2.2.2.2)), (a_T, .inr (4, [.ref a_T_traits, .int o2.2.2.2.2.2.2.2.2.1, .int o2.2.2.2.2.2.2.2.2.2.1, .int o2.2.2.2.2.2.2.2.2.2.2.1, .int o2.2.2.2.2.2.2.2.2.2.2.2.1, .int o2.2.2.2.2.2.2.2.2.2.2.2.2.1, .int o1.2.2.2.2.2])), (a_T_traits, .inl (k 0, 20, .inl o2.2.2.2.2.2.2.2.2.2.2.2.2.2)), (a_x_kept, .inl (k 3, 2, .inl x_kept)), (a_P, .inr (3, [.ref a_P_bytes, .int (0 : Int32), .int o2.2.1, .int o2.2.2.1, .int o2.2.2.2.1, .int o2.2.2.2.2.1, .int o2.2.2.2.2.2.1, .int o2.2.2.2.2.2.2.1, .int o2.2.2.2.2.2.2.2.1])), (a_P_bytes, .inl (k 1, 160, .inl P_bytes)), (a_N, .inr (2, [.ref a_N_years, .ref a_N_cells, .int N_size]))]) [1, 2, 3, 4] (va_runVN (As := [.ref a_T]) (rest := []) ⟨hx, hb, hml, hown, hts⟩ (c_X4_copyFrom l G k tL tM sK sV a_L a_L_traits a_T a_T_traits H.size L_draws L_foot L_point L_stiff L_bears L_year L_traits o2.2.2.2.2.2.2.2.2.1 o2.2.2.2.2.2.2.2.2.2.1 o2.2.2.2.2.2.2.2.2.2.2.1 o2.2.2.2.2.2.2.2.2.2.2.2.1 o2.2.2.2.2.2.2.2.2.2.2.2.2.1 o1.2.2.2.2.2 o2.2.2.2.2.2.2.2.2.2.2.2.2.2 o3 hv) ⟨va_cnB 1 hts gX5_text_X4_copyFrom_n90 rfl rfl rfl (hE.1 (.methodLinkNest RX5 90 yX4_copyFrom "SpireLean") (List.mem_of_getElem? (i := 35) rfl)) (hts (.initialized RX4) (List.mem_of_getElem? (i := 8) rfl)) (by decide +kernel) ⟨Nat.le_of_ble_eq_true rfl, Nat.le_of_ble_eq_true rfl⟩, (hts (.instanceMethod yX4_copyFrom) (List.mem_of_getElem? (i := 146) rfl)), (hts (.selects RX4 yX4_copyFrom yX4_copyFrom) (List.mem_of_getElem? (i := 147) rfl))⟩ (z_preV (wc := [(a_L, .inr (4, [.ref a_L_traits, .int L_draws, .int L_foot, .int L_point, .int L_stiff, .int L_bears, .int L_year])), (a_L_traits, .inl (k 0, 20, .inl L_traits)), (a_T, .inr (4, [.ref a_T_traits, .int o2.2.2.2.2.2.2.2.2.1, .int o2.2.2.2.2.2.2.2.2.2.1, .int o2.2.2.2.2.2.2.2.2.2.2.1, .int o2.2.2.2.2.2.2.2.2.2.2.2.1, .int o2.2.2.2.2.2.2.2.2.2.2.2.2.1, .int o1.2.2.2.2.2])), (a_T_traits, .inl (k 0, 20, .inl o2.2.2.2.2.2.2.2.2.2.2.2.2.2))]) [1, 2, 3, 4] 1 4 hK hE hA hP hD hS (by decide) rfl rfl rfl) rfl rfl hl.1 rfl (lv_room (Nat.le_of_ble_eq_true rfl)) dX5_text_64 ⟨Nat.le_refl _, Nat.le_refl _⟩) hA hP hD hS rfl rfl rfl rfl (fun H locs hP hD hS => ?_)
    refine lv_aload_n hx hb dX5_text_67 rfl (lv_at hl 1 rfl) ?_
    refine va_get (D := G) (ci := 5) (v := .ref a_N) (C := RX5) (T := TX5) (N := 12) hx hb hts iw_X5_text_X5 hown hK hP 0 rfl rfl 5 (by decide) (hts (.fieldLink RX5 37 "SpireLean" "seen" "LSpireLean$Sightings;") (List.mem_of_getElem? (i := 5) rfl)) (fun _ h9 => h9) rfl dX5_text_68 ?_
    refine lv_iconst (v := 0) hx hb dX5_text_71 (by decide) ?_
    refine va_putN (D := G) (ci := 2) (v := .int (0 : Int32)) (ty := .int) (C := RX2) (T := TX2) (N := 3) hx hb hts iw_X5_text_X2 tyX2 tyX2_ok nmX2 hown hK hP hD hS 8 rfl rfl 2 (by decide) (va_Nw.use rfl (hE.1 (.fieldLinkNest RX5 94 "SpireLean$Sightings" "size" "I" "SpireLean") (List.mem_of_getElem? (i := 16) rfl))) (fun _ h9 => h9) rfl (tyX2_ok 2 (by decide)) rfl rfl (Nat.le_of_ble_eq_true rfl) dX5_text_72 (fun H locs hP hD hS => ?_)
    have hP : va_P G vwCl [(a_x, .inr (5, [.ref a_L, .ref a_T, .ref a_x_images, .ref a_x_kept, .ref a_P, .ref a_N, .ref a_D, .ref a_x_sheets, .ref a_x_points, .ref a_x_tally, .int o2.2.2.2.2.2.2.1, .int x_readFault])), (a_L, .inr (4, [.ref a_L_traits, .int o3.1, .int o3.2.1, .int o3.2.2.1, .int o3.2.2.2.1, .int o3.2.2.2.2.1, .int o3.2.2.2.2.2.1])), (a_L_traits, .inl (k 0, 20, .inl o3.2.2.2.2.2.2)), (a_T, .inr (4, [.ref a_T_traits, .int o2.2.2.2.2.2.2.2.2.1, .int o2.2.2.2.2.2.2.2.2.2.1, .int o2.2.2.2.2.2.2.2.2.2.2.1, .int o2.2.2.2.2.2.2.2.2.2.2.2.1, .int o2.2.2.2.2.2.2.2.2.2.2.2.2.1, .int o1.2.2.2.2.2])), (a_T_traits, .inl (k 0, 20, .inl o2.2.2.2.2.2.2.2.2.2.2.2.2.2)), (a_x_kept, .inl (k 3, 2, .inl x_kept)), (a_P, .inr (3, [.ref a_P_bytes, .int (0 : Int32), .int o2.2.1, .int o2.2.2.1, .int o2.2.2.2.1, .int o2.2.2.2.2.1, .int o2.2.2.2.2.2.1, .int o2.2.2.2.2.2.2.1, .int o2.2.2.2.2.2.2.2.1])), (a_P_bytes, .inl (k 1, 160, .inl P_bytes)), (a_N, .inr (2, [.ref a_N_years, .ref a_N_cells, .int (0 : Int32)]))] H := hP
    have hD : va_D A [(a_x, .inr (5, [.ref a_L, .ref a_T, .ref a_x_images, .ref a_x_kept, .ref a_P, .ref a_N, .ref a_D, .ref a_x_sheets, .ref a_x_points, .ref a_x_tally, .int o2.2.2.2.2.2.2.1, .int x_readFault])), (a_L, .inr (4, [.ref a_L_traits, .int o3.1, .int o3.2.1, .int o3.2.2.1, .int o3.2.2.2.1, .int o3.2.2.2.2.1, .int o3.2.2.2.2.2.1])), (a_L_traits, .inl (k 0, 20, .inl o3.2.2.2.2.2.2)), (a_T, .inr (4, [.ref a_T_traits, .int o2.2.2.2.2.2.2.2.2.1, .int o2.2.2.2.2.2.2.2.2.2.1, .int o2.2.2.2.2.2.2.2.2.2.2.1, .int o2.2.2.2.2.2.2.2.2.2.2.2.1, .int o2.2.2.2.2.2.2.2.2.2.2.2.2.1, .int o1.2.2.2.2.2])), (a_T_traits, .inl (k 0, 20, .inl o2.2.2.2.2.2.2.2.2.2.2.2.2.2)), (a_x_kept, .inl (k 3, 2, .inl x_kept)), (a_P, .inr (3, [.ref a_P_bytes, .int (0 : Int32), .int o2.2.1, .int o2.2.2.1, .int o2.2.2.2.1, .int o2.2.2.2.2.1, .int o2.2.2.2.2.2.1, .int o2.2.2.2.2.2.2.1, .int o2.2.2.2.2.2.2.2.1])), (a_P_bytes, .inl (k 1, 160, .inl P_bytes)), (a_N, .inr (2, [.ref a_N_years, .ref a_N_cells, .int (0 : Int32)]))] := hD
    refine lv_iconst (v := 0) hx hb dX5_text_75 (by decide) ?_
    refine lv_istore_n (lv' := [(2, .int (0 : Int32)), (1, .int o2.1), (0, .ref a_x)]) hx hb dX5_text_76 rfl hl (by decide) rfl (fun ls hl => ?_)
    obtain ⟨e8, hv, h⟩ := zb h
    have hJ7 : ∀ (e8_ : (Nat → Int32)), e8_ = e8 → zW p l e (zR 7 151) s m ([.ref a_x] : List Value).toArray below meth c Q 3 A G [(a_x, .inr (5, [.ref a_L, .ref a_T, .ref a_x_images, .ref a_x_kept, .ref a_P, .ref a_N, .ref a_D, .ref a_x_sheets, .ref a_x_points, .ref a_x_tally, .int o2.2.2.2.2.2.2.1, .int x_readFault])), (a_L, .inr (4, [.ref a_L_traits, .int o3.1, .int o3.2.1, .int o3.2.2.1, .int o3.2.2.2.1, .int o3.2.2.2.2.1, .int o3.2.2.2.2.2.1])), (a_L_traits, .inl (k 0, 20, .inl o3.2.2.2.2.2.2)), (a_T, .inr (4, [.ref a_T_traits, .int o2.2.2.2.2.2.2.2.2.1, .int o2.2.2.2.2.2.2.2.2.2.1, .int o2.2.2.2.2.2.2.2.2.2.2.1, .int o2.2.2.2.2.2.2.2.2.2.2.2.1, .int o2.2.2.2.2.2.2.2.2.2.2.2.2.1, .int o1.2.2.2.2.2])), (a_T_traits, .inl (k 0, 20, .inl o2.2.2.2.2.2.2.2.2.2.2.2.2.2)), (a_x_kept, .inl (k 3, 2, .inl e8_)), (a_P, .inr (3, [.ref a_P_bytes, .int (0 : Int32), .int o2.2.1, .int o2.2.2.1, .int o2.2.2.2.1, .int o2.2.2.2.2.1, .int o2.2.2.2.2.2.1, .int o2.2.2.2.2.2.2.1, .int o2.2.2.2.2.2.2.2.1])), (a_P_bytes, .inl (k 1, 160, .inl P_bytes)), (a_N, .inr (2, [.ref a_N_years, .ref a_N_cells, .int (0 : Int32)]))] [(1, .int o2.1)] 95 [] := by
      intro e8_ hz
      subst hz
      intro H locs ls hP hD hS hl
      refine lv_iload_n hx hb dX5_text_95 rfl (lv_at hl 0 rfl) ?_
      have hr := (zs h)
      subst hr
      exact hret H locs ls 96 hP hS dX5_text_96
    refine z_lpW (Wh := fun (x4 : Int32 × (Nat → Int32)) => zW p l e (zR 7 151) s m ([.ref a_x] : List Value).toArray below meth c Q 3 A G [(a_x, .inr (5, [.ref a_L, .ref a_T, .ref a_x_images, .ref a_x_kept, .ref a_P, .ref a_N, .ref a_D, .ref a_x_sheets, .ref a_x_points, .ref a_x_tally, .int o2.2.2.2.2.2.2.1, .int x_readFault])), (a_L, .inr (4, [.ref a_L_traits, .int o3.1, .int o3.2.1, .int o3.2.2.1, .int o3.2.2.2.1, .int o3.2.2.2.2.1, .int o3.2.2.2.2.2.1])), (a_L_traits, .inl (k 0, 20, .inl o3.2.2.2.2.2.2)), (a_T, .inr (4, [.ref a_T_traits, .int o2.2.2.2.2.2.2.2.2.1, .int o2.2.2.2.2.2.2.2.2.2.1, .int o2.2.2.2.2.2.2.2.2.2.2.1, .int o2.2.2.2.2.2.2.2.2.2.2.2.1, .int o2.2.2.2.2.2.2.2.2.2.2.2.2.1, .int o1.2.2.2.2.2])), (a_T_traits, .inl (k 0, 20, .inl o2.2.2.2.2.2.2.2.2.2.2.2.2.2)), (a_x_kept, .inl (k 3, 2, .inl x4.2)), (a_P, .inr (3, [.ref a_P_bytes, .int (0 : Int32), .int o2.2.1, .int o2.2.2.1, .int o2.2.2.2.1, .int o2.2.2.2.2.1, .int o2.2.2.2.2.2.1, .int o2.2.2.2.2.2.2.1, .int o2.2.2.2.2.2.2.2.1])), (a_P_bytes, .inl (k 1, 160, .inl P_bytes)), (a_N, .inr (2, [.ref a_N_years, .ref a_N_cells, .int (0 : Int32)]))] [(0, .ref a_x), (1, .int o2.1), (2, .int x4.1)] 77 []) ?_ 1000 _ hv H locs ls hP hD hS (lv_sub hl [2, 1, 0] rfl)
    clear h
    intro x4 o h hC5 hX6 H locs ls hP hD hS hl
    unfold p_X5_text_b77 at h
    refine lv_iload_n hx hb dX5_text_77 rfl (lv_at hl 2 rfl) ?_
    refine lv_iconst (v := 2) hx hb dX5_text_78 (by decide) ?_
    refine lv_icmp_ge (tgt := 95) hx hb dX5_text_79 (by decide) (fun c11 => ?_) (fun c11 => ?_)
    · have h := zit c11 h
      exact hJ7 _ (hX6 _ (zs h)) H locs ls hP hD hS (lv_sub hl [1] rfl)
    · have h := zif c11 h
      refine lv_aload_n hx hb dX5_text_82 rfl (lv_at hl 0 rfl) ?_
      refine va_get (D := G) (ci := 5) (v := .ref a_x_kept) (C := RX5) (T := TX5) (N := 12) hx hb hts iw_X5_text_X5 hown hK hP 0 rfl rfl 3 (by decide) (hts (.fieldLink RX5 23 "SpireLean" "kept" "[Z") (List.mem_of_getElem? (i := 6) rfl)) (fun _ h9 => h9) rfl dX5_text_83 ?_
      refine lv_iload_n hx hb dX5_text_86 rfl (lv_at hl 2 rfl) ?_
      refine lv_iconst (v := 0) hx hb dX5_text_87 (by decide) ?_
      obtain ⟨v10, hv, h⟩ := zb h
      refine z_zast hx hb hK hP hD hS 5 3 rfl rfl hv dX5_text_88 (fun H locs hP hD hS => ?_)
      have hP : va_P G vwCl [(a_x, .inr (5, [.ref a_L, .ref a_T, .ref a_x_images, .ref a_x_kept, .ref a_P, .ref a_N, .ref a_D, .ref a_x_sheets, .ref a_x_points, .ref a_x_tally, .int o2.2.2.2.2.2.2.1, .int x_readFault])), (a_L, .inr (4, [.ref a_L_traits, .int o3.1, .int o3.2.1, .int o3.2.2.1, .int o3.2.2.2.1, .int o3.2.2.2.2.1, .int o3.2.2.2.2.2.1])), (a_L_traits, .inl (k 0, 20, .inl o3.2.2.2.2.2.2)), (a_T, .inr (4, [.ref a_T_traits, .int o2.2.2.2.2.2.2.2.2.1, .int o2.2.2.2.2.2.2.2.2.2.1, .int o2.2.2.2.2.2.2.2.2.2.2.1, .int o2.2.2.2.2.2.2.2.2.2.2.2.1, .int o2.2.2.2.2.2.2.2.2.2.2.2.2.1, .int o1.2.2.2.2.2])), (a_T_traits, .inl (k 0, 20, .inl o2.2.2.2.2.2.2.2.2.2.2.2.2.2)), (a_x_kept, .inl (k 3, 2, .inl v10)), (a_P, .inr (3, [.ref a_P_bytes, .int (0 : Int32), .int o2.2.1, .int o2.2.2.1, .int o2.2.2.2.1, .int o2.2.2.2.2.1, .int o2.2.2.2.2.2.1, .int o2.2.2.2.2.2.2.1, .int o2.2.2.2.2.2.2.2.1])), (a_P_bytes, .inl (k 1, 160, .inl P_bytes)), (a_N, .inr (2, [.ref a_N_years, .ref a_N_cells, .int (0 : Int32)]))] H := hP
      have hD : va_D A [(a_x, .inr (5, [.ref a_L, .ref a_T, .ref a_x_images, .ref a_x_kept, .ref a_P, .ref a_N, .ref a_D, .ref a_x_sheets, .ref a_x_points, .ref a_x_tally, .int o2.2.2.2.2.2.2.1, .int x_readFault])), (a_L, .inr (4, [.ref a_L_traits, .int o3.1, .int o3.2.1, .int o3.2.2.1, .int o3.2.2.2.1, .int o3.2.2.2.2.1, .int o3.2.2.2.2.2.1])), (a_L_traits, .inl (k 0, 20, .inl o3.2.2.2.2.2.2)), (a_T, .inr (4, [.ref a_T_traits, .int o2.2.2.2.2.2.2.2.2.1, .int o2.2.2.2.2.2.2.2.2.2.1, .int o2.2.2.2.2.2.2.2.2.2.2.1, .int o2.2.2.2.2.2.2.2.2.2.2.2.1, .int o2.2.2.2.2.2.2.2.2.2.2.2.2.1, .int o1.2.2.2.2.2])), (a_T_traits, .inl (k 0, 20, .inl o2.2.2.2.2.2.2.2.2.2.2.2.2.2)), (a_x_kept, .inl (k 3, 2, .inl v10)), (a_P, .inr (3, [.ref a_P_bytes, .int (0 : Int32), .int o2.2.1, .int o2.2.2.1, .int o2.2.2.2.1, .int o2.2.2.2.2.1, .int o2.2.2.2.2.2.1, .int o2.2.2.2.2.2.2.1, .int o2.2.2.2.2.2.2.2.1])), (a_P_bytes, .inl (k 1, 160, .inl P_bytes)), (a_N, .inr (2, [.ref a_N_years, .ref a_N_cells, .int (0 : Int32)]))] := hD
      refine lv_iinc (v := x4.1 + (1 : Int32)) (lv' := [(2, .int (x4.1 + (1 : Int32))), (0, .ref a_x), (1, .int o2.1)]) hx hb dX5_text_89 hl (k := 2) rfl rfl (by decide) rfl (fun ls hl => ?_)
      refine lv_goto (tgt := 77) hx hb dX5_text_92 (by decide) ?_
      exact hC5 _ (zs h) H locs ls hP hD hS (lv_sub hl [1, 2, 0] rfl)
  · have h := zif c12 h
    refine lv_bipush (v := (-10)) hx hb dX5_text_45 (by decide) ?_
    refine lv_aload_n hx hb dX5_text_47 rfl (lv_at hl 1 rfl) ?_
    refine va_get (D := G) (ci := 5) (v := .ref a_P) (C := RX5) (T := TX5) (N := 12) hx hb hts iw_X5_text_X5 hown hK hP 0 rfl rfl 4 (by decide) (hts (.fieldLink RX5 30 "SpireLean" "tape" "LSpireLean$Tape;") (List.mem_of_getElem? (i := 2) rfl)) (fun _ h9 => h9) rfl dX5_text_48 ?_
    refine va_getN (D := G) (ci := 3) (v := .int o2.2.2.2.2.2.2.2.1) (C := RX3) (T := TX3) (N := 9) hx hb hts iw_X5_text_X3 hown hK hP 6 rfl rfl 8 (by decide) (va_Nw.use rfl (hE.1 (.fieldLinkNest RX5 87 "SpireLean$Tape" "faultPlace" "I" "SpireLean") (List.mem_of_getElem? (i := 15) rfl))) (fun _ h9 => h9) rfl dX5_text_51 ?_
    refine lv_isub hx hb dX5_text_54 ?_
    have hr := (zs h)
    subst hr
    exact hret H locs ls 55 hP hS dX5_text_55
theorem iw_X5_fault_X5 : ∀ w ∈ wsX50, w ∈ wsX5_fault := fun _ h => List.mem_cons_of_mem _ (List.mem_append_right _ h)
set_option maxHeartbeats 4000000 in
set_option maxRecDepth 100000 in
theorem c_X5_fault (l : Launch) (G : va_G) (k : Nat → ClassId) (tL tM : Nat) (sK sV : Nat → Nat) (a_x : Nat) (a_L : Nat) (a_T : Nat) (a_x_images : Nat) (a_x_kept : Nat) (a_P : Nat) (a_N : Nat) (a_D : Nat) (a_x_sheets : Nat) (a_x_points : Nat) (a_x_tally : Nat) (sz : Nat) (x_textFault : Int32) (x_readFault : Int32) (out : Int32) (h : p_X5_fault x_textFault = some out) : zMi l yX5_fault wsX5_fault 0 0 G k tL tM sK sV [.ref a_x] [(a_x, .inr (5, [.ref a_L, .ref a_T, .ref a_x_images, .ref a_x_kept, .ref a_P, .ref a_N, .ref a_D, .ref a_x_sheets, .ref a_x_points, .ref a_x_tally, .int x_textFault, .int x_readFault]))] [(a_x, .inr (5, [.ref a_L, .ref a_T, .ref a_x_images, .ref a_x_kept, .ref a_P, .ref a_N, .ref a_D, .ref a_x_sheets, .ref a_x_points, .ref a_x_tally, .int x_textFault, .int x_readFault]))] out sz := by
  refine z_meti (cc := cX5_fault) (maxL := 1) (by decide) rfl (Nat.le_of_ble_eq_true rfl) ?_
  intro p e s m below meth c A Q H locs ls hx hb hml hts hown hA hK hE hret hP hD hS hl
  have hown : s.vm.findClass RX5 = some m.cls := hown
  have hl : lv_has ls 1 [(0, .ref a_x)] := hl
  unfold p_X5_fault at h
  refine lv_aload_n hx hb dX5_fault_0 rfl (lv_at hl 0 rfl) ?_
  refine va_get (D := G) (ci := 5) (v := .int x_textFault) (C := RX5) (T := TX5) (N := 12) hx hb hts iw_X5_fault_X5 hown hK hP 0 rfl rfl 10 (by decide) (hts (.fieldLink RX5 84 "SpireLean" "textFault" "I") (List.mem_of_getElem? (i := 1) rfl)) (fun _ h9 => h9) rfl dX5_fault_1 ?_
  have hr := (zs h)
  subst hr
  exact hret H locs ls 4 hP hS dX5_fault_4
theorem iw_X5_rule_X4 : ∀ w ∈ wsX40, w ∈ wsX5_rule := fun _ h => List.mem_cons_of_mem _ (List.mem_append_right _ h)
theorem iw_X5_rule_X5 : ∀ w ∈ wsX50, w ∈ wsX5_rule := fun _ h => List.mem_cons_of_mem _ (List.mem_append_left _ (List.mem_append_right _ h))
set_option maxHeartbeats 4000000 in
set_option maxRecDepth 100000 in
theorem c_X5_rule (l : Launch) (G : va_G) (k : Nat → ClassId) (tL tM : Nat) (sK sV : Nat → Nat) (a_x : Nat) (a_L : Nat) (a_T : Nat) (a_x_images : Nat) (a_x_kept : Nat) (a_P : Nat) (a_N : Nat) (a_D : Nat) (a_x_sheets : Nat) (a_x_points : Nat) (a_x_tally : Nat) (a_L_traits : Nat) (sz : Nat) (x_textFault : Int32) (x_readFault : Int32) (L_draws : Int32) (L_foot : Int32) (L_point : Int32) (L_stiff : Int32) (L_bears : Int32) (L_year : Int32) (L_traits : Nat → Int32) (u1 : Int32) (out : Int32) (h : p_X5_rule u1 L_draws L_foot L_point L_stiff L_bears L_year L_traits = some out) : zMi l yX5_rule wsX5_rule 3 70 G k tL tM sK sV [.ref a_x, .int u1] [(a_x, .inr (5, [.ref a_L, .ref a_T, .ref a_x_images, .ref a_x_kept, .ref a_P, .ref a_N, .ref a_D, .ref a_x_sheets, .ref a_x_points, .ref a_x_tally, .int x_textFault, .int x_readFault])), (a_L, .inr (4, [.ref a_L_traits, .int L_draws, .int L_foot, .int L_point, .int L_stiff, .int L_bears, .int L_year])), (a_L_traits, .inl (k 0, 20, .inl L_traits))] [(a_x, .inr (5, [.ref a_L, .ref a_T, .ref a_x_images, .ref a_x_kept, .ref a_P, .ref a_N, .ref a_D, .ref a_x_sheets, .ref a_x_points, .ref a_x_tally, .int x_textFault, .int x_readFault])), (a_L, .inr (4, [.ref a_L_traits, .int L_draws, .int L_foot, .int L_point, .int L_stiff, .int L_bears, .int L_year])), (a_L_traits, .inl (k 0, 20, .inl L_traits))] out sz := by
  refine z_meti (cc := cX5_rule) (maxL := 2) (by decide) rfl (Nat.le_of_ble_eq_true rfl) ?_
  intro p e s m below meth c A Q H locs ls hx hb hml hts hown hA hK hE hret hP hD hS hl
  have hown : s.vm.findClass RX5 = some m.cls := hown
  have hl : lv_has ls 2 [(0, .ref a_x), (1, .int u1)] := hl
  unfold p_X5_rule at h
  refine lv_iload_n hx hb dX5_rule_0 rfl (lv_at hl 1 rfl) ?_
  by_cases c1 : u1 = (0 : Int32)
  · have h := zit c1 h
    refine lv_tableIn (off := 55) (tgt := 56) hx hb dX5_rule_1 (by rw [c1]; decide) (by rw [c1]; decide) (by rw [c1]; decide) (by decide) ?_
    refine lv_aload_n hx hb dX5_rule_56 rfl (lv_at hl 0 rfl) ?_
    refine va_get (D := G) (ci := 5) (v := .ref a_L) (C := RX5) (T := TX5) (N := 12) hx hb hts iw_X5_rule_X5 hown hK hP 0 rfl rfl 0 (by decide) (hts (.fieldLink RX5 10 "SpireLean" "live" "LSpireLean$Town;") (List.mem_of_getElem? (i := 1) rfl)) (fun _ h9 => h9) rfl dX5_rule_57 ?_
    refine va_getN (D := G) (ci := 4) (v := .int L_draws) (C := RX4) (T := TX4) (N := 7) hx hb hts iw_X5_rule_X4 hown hK hP 1 rfl rfl 1 (by decide) (va_Nw.use rfl (hE.1 (.fieldLinkNest RX5 97 "SpireLean$Town" "draws" "I" "SpireLean") (List.mem_of_getElem? (i := 0) rfl))) (fun _ h9 => h9) rfl dX5_rule_60 ?_
    have hr := (zs h)
    subst hr
    exact hret H locs ls 63 hP hS dX5_rule_63
  · have h := zif c1 h
    by_cases c2 : u1 = (1 : Int32)
    · have h := zit c2 h
      refine lv_tableIn (off := 63) (tgt := 64) hx hb dX5_rule_1 (by rw [c2]; decide) (by rw [c2]; decide) (by rw [c2]; decide) (by decide) ?_
      refine lv_aload_n hx hb dX5_rule_64 rfl (lv_at hl 0 rfl) ?_
      refine va_get (D := G) (ci := 5) (v := .ref a_L) (C := RX5) (T := TX5) (N := 12) hx hb hts iw_X5_rule_X5 hown hK hP 0 rfl rfl 0 (by decide) (hts (.fieldLink RX5 10 "SpireLean" "live" "LSpireLean$Town;") (List.mem_of_getElem? (i := 1) rfl)) (fun _ h9 => h9) rfl dX5_rule_65 ?_
      refine va_getN (D := G) (ci := 4) (v := .int L_year) (C := RX4) (T := TX4) (N := 7) hx hb hts iw_X5_rule_X4 hown hK hP 1 rfl rfl 6 (by decide) (va_Nw.use rfl (hE.1 (.fieldLinkNest RX5 100 "SpireLean$Town" "year" "I" "SpireLean") (List.mem_of_getElem? (i := 12) rfl))) (fun _ h9 => h9) rfl dX5_rule_68 ?_
      have hr := (zs h)
      subst hr
      exact hret H locs ls 71 hP hS dX5_rule_71
    · have h := zif c2 h
      by_cases c3 : u1 = (2 : Int32)
      · have h := zit c3 h
        refine lv_tableIn (off := 71) (tgt := 72) hx hb dX5_rule_1 (by rw [c3]; decide) (by rw [c3]; decide) (by rw [c3]; decide) (by decide) ?_
        refine lv_aload_n hx hb dX5_rule_72 rfl (lv_at hl 0 rfl) ?_
        refine va_get (D := G) (ci := 5) (v := .ref a_L) (C := RX5) (T := TX5) (N := 12) hx hb hts iw_X5_rule_X5 hown hK hP 0 rfl rfl 0 (by decide) (hts (.fieldLink RX5 10 "SpireLean" "live" "LSpireLean$Town;") (List.mem_of_getElem? (i := 1) rfl)) (fun _ h9 => h9) rfl dX5_rule_73 ?_
        refine va_getN (D := G) (ci := 4) (v := .int L_foot) (C := RX4) (T := TX4) (N := 7) hx hb hts iw_X5_rule_X4 hown hK hP 1 rfl rfl 2 (by decide) (va_Nw.use rfl (hE.1 (.fieldLinkNest RX5 103 "SpireLean$Town" "foot" "I" "SpireLean") (List.mem_of_getElem? (i := 2) rfl))) (fun _ h9 => h9) rfl dX5_rule_76 ?_
        have hr := (zs h)
        subst hr
        exact hret H locs ls 79 hP hS dX5_rule_79
      · have h := zif c3 h
        by_cases c4 : u1 = (3 : Int32)
        · have h := zit c4 h
          refine lv_tableIn (off := 79) (tgt := 80) hx hb dX5_rule_1 (by rw [c4]; decide) (by rw [c4]; decide) (by rw [c4]; decide) (by decide) ?_
          refine lv_aload_n hx hb dX5_rule_80 rfl (lv_at hl 0 rfl) ?_
          refine va_get (D := G) (ci := 5) (v := .ref a_L) (C := RX5) (T := TX5) (N := 12) hx hb hts iw_X5_rule_X5 hown hK hP 0 rfl rfl 0 (by decide) (hts (.fieldLink RX5 10 "SpireLean" "live" "LSpireLean$Town;") (List.mem_of_getElem? (i := 1) rfl)) (fun _ h9 => h9) rfl dX5_rule_81 ?_
          refine va_getN (D := G) (ci := 4) (v := .int L_point) (C := RX4) (T := TX4) (N := 7) hx hb hts iw_X5_rule_X4 hown hK hP 1 rfl rfl 3 (by decide) (va_Nw.use rfl (hE.1 (.fieldLinkNest RX5 106 "SpireLean$Town" "point" "I" "SpireLean") (List.mem_of_getElem? (i := 6) rfl))) (fun _ h9 => h9) rfl dX5_rule_84 ?_
          have hr := (zs h)
          subst hr
          exact hret H locs ls 87 hP hS dX5_rule_87
        · have h := zif c4 h
          by_cases c5 : u1 = (4 : Int32)
          · have h := zit c5 h
            refine lv_tableIn (off := 87) (tgt := 88) hx hb dX5_rule_1 (by rw [c5]; decide) (by rw [c5]; decide) (by rw [c5]; decide) (by decide) ?_
            refine lv_aload_n hx hb dX5_rule_88 rfl (lv_at hl 0 rfl) ?_
            refine va_get (D := G) (ci := 5) (v := .ref a_L) (C := RX5) (T := TX5) (N := 12) hx hb hts iw_X5_rule_X5 hown hK hP 0 rfl rfl 0 (by decide) (hts (.fieldLink RX5 10 "SpireLean" "live" "LSpireLean$Town;") (List.mem_of_getElem? (i := 1) rfl)) (fun _ h9 => h9) rfl dX5_rule_89 ?_
            obtain ⟨o6, hv, h⟩ := zb h
            refine z_goi (w2 := [(a_x, .inr (5, [.ref a_L, .ref a_T, .ref a_x_images, .ref a_x_kept, .ref a_P, .ref a_N, .ref a_D, .ref a_x_sheets, .ref a_x_points, .ref a_x_tally, .int x_textFault, .int x_readFault])), (a_L, .inr (4, [.ref a_L_traits, .int L_draws, .int L_foot, .int L_point, .int L_stiff, .int L_bears, .int L_year])), (a_L_traits, .inl (k 0, 20, .inl L_traits))]) [1] (va_runVN (As := []) (rest := []) ⟨hx, hb, hml, hown, hts⟩ (c_X4_lean l G k tL tM sK sV a_L a_L_traits H.size L_draws L_foot L_point L_stiff L_bears L_year o6 hv) ⟨va_cnB 0 hts gX5_rule_X4_lean_n109 rfl rfl rfl (hE.1 (.methodLinkNest RX5 109 yX4_lean "SpireLean") (List.mem_of_getElem? (i := 36) rfl)) (hts (.initialized RX4) (List.mem_of_getElem? (i := 3) rfl)) (by decide +kernel) ⟨Nat.le_of_ble_eq_true rfl, Nat.le_of_ble_eq_true rfl⟩, (hts (.instanceMethod yX4_lean) (List.mem_of_getElem? (i := 2) rfl)), (hts (.selects RX4 yX4_lean yX4_lean) (List.mem_of_getElem? (i := 4) rfl))⟩ (z_preV (wc := [(a_L, .inr (4, [.ref a_L_traits, .int L_draws, .int L_foot, .int L_point, .int L_stiff, .int L_bears, .int L_year]))]) [1] 1 4 hK hE hA hP hD hS (by decide) rfl rfl rfl) rfl rfl hl.1 rfl (lv_room (Nat.le_of_ble_eq_true rfl)) dX5_rule_92 ⟨Nat.le_refl _, Nat.le_refl _⟩) hA hP hD hS rfl rfl rfl rfl (fun H locs hP hD hS => ?_)
            have hr := (zs h)
            subst hr
            exact hret H locs ls 95 hP hS dX5_rule_95
          · have h := zif c5 h
            by_cases c7 : u1 = (5 : Int32)
            · have h := zit c7 h
              refine lv_tableIn (off := 95) (tgt := 96) hx hb dX5_rule_1 (by rw [c7]; decide) (by rw [c7]; decide) (by rw [c7]; decide) (by decide) ?_
              refine lv_aload_n hx hb dX5_rule_96 rfl (lv_at hl 0 rfl) ?_
              refine va_get (D := G) (ci := 5) (v := .ref a_L) (C := RX5) (T := TX5) (N := 12) hx hb hts iw_X5_rule_X5 hown hK hP 0 rfl rfl 0 (by decide) (hts (.fieldLink RX5 10 "SpireLean" "live" "LSpireLean$Town;") (List.mem_of_getElem? (i := 1) rfl)) (fun _ h9 => h9) rfl dX5_rule_97 ?_
              obtain ⟨o8, hv, h⟩ := zb h
              refine z_goi (w2 := [(a_x, .inr (5, [.ref a_L, .ref a_T, .ref a_x_images, .ref a_x_kept, .ref a_P, .ref a_N, .ref a_D, .ref a_x_sheets, .ref a_x_points, .ref a_x_tally, .int x_textFault, .int x_readFault])), (a_L, .inr (4, [.ref a_L_traits, .int L_draws, .int L_foot, .int L_point, .int L_stiff, .int L_bears, .int L_year])), (a_L_traits, .inl (k 0, 20, .inl L_traits))]) [1] (va_runVN (As := []) (rest := []) ⟨hx, hb, hml, hown, hts⟩ (c_X4_isFallen l G k tL tM sK sV a_L a_L_traits H.size L_draws L_foot L_point L_stiff L_bears L_year o8 hv) ⟨va_cnB 0 hts gX5_rule_X4_isFallen_n113 rfl rfl rfl (hE.1 (.methodLinkNest RX5 113 yX4_isFallen "SpireLean") (List.mem_of_getElem? (i := 38) rfl)) (hts (.initialized RX4) (List.mem_of_getElem? (i := 3) rfl)) (by decide +kernel) ⟨Nat.le_of_ble_eq_true rfl, Nat.le_of_ble_eq_true rfl⟩, (hts (.instanceMethod yX4_isFallen) (List.mem_of_getElem? (i := 11) rfl)), (hts (.selects RX4 yX4_isFallen yX4_isFallen) (List.mem_of_getElem? (i := 12) rfl))⟩ (z_preV (wc := [(a_L, .inr (4, [.ref a_L_traits, .int L_draws, .int L_foot, .int L_point, .int L_stiff, .int L_bears, .int L_year]))]) [1] 1 4 hK hE hA hP hD hS (by decide) rfl rfl rfl) rfl rfl hl.1 rfl (lv_room (Nat.le_of_ble_eq_true rfl)) dX5_rule_100 ⟨Nat.le_refl _, Nat.le_refl _⟩) hA hP hD hS rfl rfl rfl rfl (fun H locs hP hD hS => ?_)
              refine lv_if_eq (tgt := 110) hx hb dX5_rule_103 (by decide) (fun c9 => ?_) (fun c9 => ?_)
              · have h := zit c9 h
                refine lv_iconst (v := 0) hx hb dX5_rule_110 (by decide) ?_
                have hr := (zs h)
                subst hr
                exact hret H locs ls 111 hP hS dX5_rule_111
              · have h := zif c9 h
                refine lv_iconst (v := 1) hx hb dX5_rule_106 (by decide) ?_
                refine lv_goto (tgt := 111) hx hb dX5_rule_107 (by decide) ?_
                have hr := (zs h)
                subst hr
                exact hret H locs ls 111 hP hS dX5_rule_111
            · have h := zif c7 h
              by_cases c10 : u1 = (6 : Int32)
              · have h := zit c10 h
                refine lv_tableIn (off := 111) (tgt := 112) hx hb dX5_rule_1 (by rw [c10]; decide) (by rw [c10]; decide) (by rw [c10]; decide) (by decide) ?_
                refine lv_aload_n hx hb dX5_rule_112 rfl (lv_at hl 0 rfl) ?_
                refine va_get (D := G) (ci := 5) (v := .ref a_L) (C := RX5) (T := TX5) (N := 12) hx hb hts iw_X5_rule_X5 hown hK hP 0 rfl rfl 0 (by decide) (hts (.fieldLink RX5 10 "SpireLean" "live" "LSpireLean$Town;") (List.mem_of_getElem? (i := 1) rfl)) (fun _ h9 => h9) rfl dX5_rule_113 ?_
                obtain ⟨o11, hv, h⟩ := zb h
                refine z_goi (w2 := [(a_x, .inr (5, [.ref a_L, .ref a_T, .ref a_x_images, .ref a_x_kept, .ref a_P, .ref a_N, .ref a_D, .ref a_x_sheets, .ref a_x_points, .ref a_x_tally, .int x_textFault, .int x_readFault])), (a_L, .inr (4, [.ref a_L_traits, .int L_draws, .int L_foot, .int L_point, .int L_stiff, .int L_bears, .int L_year])), (a_L_traits, .inl (k 0, 20, .inl L_traits))]) [1, 2] (va_runVN (As := []) (rest := []) ⟨hx, hb, hml, hown, hts⟩ (c_X4_holder l G k tL tM sK sV a_L a_L_traits H.size L_draws L_foot L_point L_stiff L_bears L_year L_traits o11 hv) ⟨va_cnB 0 hts gX5_rule_X4_holder_n117 rfl rfl rfl (hE.1 (.methodLinkNest RX5 117 yX4_holder "SpireLean") (List.mem_of_getElem? (i := 39) rfl)) (hts (.initialized RX4) (List.mem_of_getElem? (i := 3) rfl)) (by decide +kernel) ⟨Nat.le_of_ble_eq_true rfl, Nat.le_of_ble_eq_true rfl⟩, (hts (.instanceMethod yX4_holder) (List.mem_of_getElem? (i := 16) rfl)), (hts (.selects RX4 yX4_holder yX4_holder) (List.mem_of_getElem? (i := 17) rfl))⟩ (z_preV (wc := [(a_L, .inr (4, [.ref a_L_traits, .int L_draws, .int L_foot, .int L_point, .int L_stiff, .int L_bears, .int L_year])), (a_L_traits, .inl (k 0, 20, .inl L_traits))]) [1, 2] 1 4 hK hE hA hP hD hS (by decide) rfl rfl rfl) rfl rfl hl.1 rfl (lv_room (Nat.le_of_ble_eq_true rfl)) dX5_rule_116 ⟨Nat.le_refl _, Nat.le_refl _⟩) hA hP hD hS rfl rfl rfl rfl (fun H locs hP hD hS => ?_)
                have hr := (zs h)
                subst hr
                exact hret H locs ls 119 hP hS dX5_rule_119
              · have h := zif c10 h
                by_cases c12 : u1 = (7 : Int32)
                · have h := zit c12 h
                  refine lv_tableIn (off := 119) (tgt := 120) hx hb dX5_rule_1 (by rw [c12]; decide) (by rw [c12]; decide) (by rw [c12]; decide) (by decide) ?_
                  refine lv_aload_n hx hb dX5_rule_120 rfl (lv_at hl 0 rfl) ?_
                  refine va_get (D := G) (ci := 5) (v := .ref a_L) (C := RX5) (T := TX5) (N := 12) hx hb hts iw_X5_rule_X5 hown hK hP 0 rfl rfl 0 (by decide) (hts (.fieldLink RX5 10 "SpireLean" "live" "LSpireLean$Town;") (List.mem_of_getElem? (i := 1) rfl)) (fun _ h9 => h9) rfl dX5_rule_121 ?_
                  obtain ⟨o13, hv, h⟩ := zb h
                  refine z_goi (w2 := [(a_x, .inr (5, [.ref a_L, .ref a_T, .ref a_x_images, .ref a_x_kept, .ref a_P, .ref a_N, .ref a_D, .ref a_x_sheets, .ref a_x_points, .ref a_x_tally, .int x_textFault, .int x_readFault])), (a_L, .inr (4, [.ref a_L_traits, .int L_draws, .int L_foot, .int L_point, .int L_stiff, .int L_bears, .int L_year])), (a_L_traits, .inl (k 0, 20, .inl L_traits))]) [1] (va_runVN (As := []) (rest := []) ⟨hx, hb, hml, hown, hts⟩ (c_X4_pullBack l G k tL tM sK sV a_L a_L_traits H.size L_draws L_foot L_point L_stiff L_bears L_year o13 hv) ⟨va_cnB 0 hts gX5_rule_X4_pullBack_n120 rfl rfl rfl (hE.1 (.methodLinkNest RX5 120 yX4_pullBack "SpireLean") (List.mem_of_getElem? (i := 40) rfl)) (hts (.initialized RX4) (List.mem_of_getElem? (i := 3) rfl)) (by decide +kernel) ⟨Nat.le_of_ble_eq_true rfl, Nat.le_of_ble_eq_true rfl⟩, (hts (.instanceMethod yX4_pullBack) (List.mem_of_getElem? (i := 34) rfl)), (hts (.selects RX4 yX4_pullBack yX4_pullBack) (List.mem_of_getElem? (i := 35) rfl))⟩ (z_preV (wc := [(a_L, .inr (4, [.ref a_L_traits, .int L_draws, .int L_foot, .int L_point, .int L_stiff, .int L_bears, .int L_year]))]) [1] 1 4 hK hE hA hP hD hS (by decide) rfl rfl rfl) rfl rfl hl.1 rfl (lv_room (Nat.le_of_ble_eq_true rfl)) dX5_rule_124 ⟨Nat.le_refl _, Nat.le_refl _⟩) hA hP hD hS rfl rfl rfl rfl (fun H locs hP hD hS => ?_)
                  have hr := (zs h)
                  subst hr
                  exact hret H locs ls 127 hP hS dX5_rule_127
                · have h := zif c12 h
                  by_cases c14 : u1 = (8 : Int32)
                  · have h := zit c14 h
                    refine lv_tableIn (off := 127) (tgt := 128) hx hb dX5_rule_1 (by rw [c14]; decide) (by rw [c14]; decide) (by rw [c14]; decide) (by decide) ?_
                    refine lv_aload_n hx hb dX5_rule_128 rfl (lv_at hl 0 rfl) ?_
                    refine va_get (D := G) (ci := 5) (v := .ref a_L) (C := RX5) (T := TX5) (N := 12) hx hb hts iw_X5_rule_X5 hown hK hP 0 rfl rfl 0 (by decide) (hts (.fieldLink RX5 10 "SpireLean" "live" "LSpireLean$Town;") (List.mem_of_getElem? (i := 1) rfl)) (fun _ h9 => h9) rfl dX5_rule_129 ?_
                    refine va_getN (D := G) (ci := 4) (v := .int L_stiff) (C := RX4) (T := TX4) (N := 7) hx hb hts iw_X5_rule_X4 hown hK hP 1 rfl rfl 4 (by decide) (va_Nw.use rfl (hE.1 (.fieldLinkNest RX5 123 "SpireLean$Town" "stiff" "I" "SpireLean") (List.mem_of_getElem? (i := 8) rfl))) (fun _ h9 => h9) rfl dX5_rule_132 ?_
                    have hr := (zs h)
                    subst hr
                    exact hret H locs ls 135 hP hS dX5_rule_135
                  · have h := zif c14 h
                    by_cases c15 : u1 = (9 : Int32)
                    · have h := zit c15 h
                      refine lv_tableIn (off := 135) (tgt := 136) hx hb dX5_rule_1 (by rw [c15]; decide) (by rw [c15]; decide) (by rw [c15]; decide) (by decide) ?_
                      refine lv_aload_n hx hb dX5_rule_136 rfl (lv_at hl 0 rfl) ?_
                      refine va_get (D := G) (ci := 5) (v := .ref a_L) (C := RX5) (T := TX5) (N := 12) hx hb hts iw_X5_rule_X5 hown hK hP 0 rfl rfl 0 (by decide) (hts (.fieldLink RX5 10 "SpireLean" "live" "LSpireLean$Town;") (List.mem_of_getElem? (i := 1) rfl)) (fun _ h9 => h9) rfl dX5_rule_137 ?_
                      refine va_getN (D := G) (ci := 4) (v := .int L_bears) (C := RX4) (T := TX4) (N := 7) hx hb hts iw_X5_rule_X4 hown hK hP 1 rfl rfl 5 (by decide) (va_Nw.use rfl (hE.1 (.fieldLinkNest RX5 126 "SpireLean$Town" "bears" "I" "SpireLean") (List.mem_of_getElem? (i := 10) rfl))) (fun _ h9 => h9) rfl dX5_rule_140 ?_
                      have hr := (zs h)
                      subst hr
                      exact hret H locs ls 143 hP hS dX5_rule_143
                    · have h := zif c15 h
                      have hw : (u1).toInt < 0 ∨ 9 < (u1).toInt := by
                        have e0 : (u1).toInt ≠ 0 := fun q => c1 (Int32.toInt_inj.mp q)
                        have e1 : (u1).toInt ≠ 1 := fun q => c2 (Int32.toInt_inj.mp q)
                        have e2 : (u1).toInt ≠ 2 := fun q => c3 (Int32.toInt_inj.mp q)
                        have e3 : (u1).toInt ≠ 3 := fun q => c4 (Int32.toInt_inj.mp q)
                        have e4 : (u1).toInt ≠ 4 := fun q => c5 (Int32.toInt_inj.mp q)
                        have e5 : (u1).toInt ≠ 5 := fun q => c7 (Int32.toInt_inj.mp q)
                        have e6 : (u1).toInt ≠ 6 := fun q => c10 (Int32.toInt_inj.mp q)
                        have e7 : (u1).toInt ≠ 7 := fun q => c12 (Int32.toInt_inj.mp q)
                        have e8 : (u1).toInt ≠ 8 := fun q => c14 (Int32.toInt_inj.mp q)
                        have e9 : (u1).toInt ≠ 9 := fun q => c15 (Int32.toInt_inj.mp q)
                        omega
                      refine lv_tableOut (tgt := 144) hx hb dX5_rule_1 hw (by decide) ?_
                      refine lv_iconst (v := (-1)) hx hb dX5_rule_144 (by decide) ?_
                      have hr := (zs h)
                      subst hr
                      exact hret H locs ls 145 hP hS dX5_rule_145
theorem iw_X5_draw_X5 : ∀ w ∈ wsX50, w ∈ wsX5_draw := fun _ h => List.mem_cons_of_mem _ (List.mem_append_left _ (List.mem_append_right _ h))
set_option maxHeartbeats 4000000 in
set_option maxRecDepth 100000 in
theorem c_X5_draw (l : Launch) (G : va_G) (k : Nat → ClassId) (tL tM : Nat) (sK sV : Nat → Nat) (a_x : Nat) (a_L : Nat) (a_T : Nat) (a_x_images : Nat) (a_x_kept : Nat) (a_P : Nat) (a_N : Nat) (a_D : Nat) (a_x_sheets : Nat) (a_x_points : Nat) (a_x_tally : Nat) (a_L_traits : Nat) (sz : Nat) (x_textFault : Int32) (x_readFault : Int32) (L_draws : Int32) (L_foot : Int32) (L_point : Int32) (L_stiff : Int32) (L_bears : Int32) (L_year : Int32) (L_traits : Nat → Int32) (u1 : Int32) (u2 : Int32) (out : Int32) (h : p_X5_draw u1 u2 L_draws L_point L_year L_traits = some out) : zMi l yX5_draw wsX5_draw 2 45 G k tL tM sK sV [.ref a_x, .int u1, .int u2] [(a_x, .inr (5, [.ref a_L, .ref a_T, .ref a_x_images, .ref a_x_kept, .ref a_P, .ref a_N, .ref a_D, .ref a_x_sheets, .ref a_x_points, .ref a_x_tally, .int x_textFault, .int x_readFault])), (a_L, .inr (4, [.ref a_L_traits, .int L_draws, .int L_foot, .int L_point, .int L_stiff, .int L_bears, .int L_year])), (a_L_traits, .inl (k 0, 20, .inl L_traits))] [(a_x, .inr (5, [.ref a_L, .ref a_T, .ref a_x_images, .ref a_x_kept, .ref a_P, .ref a_N, .ref a_D, .ref a_x_sheets, .ref a_x_points, .ref a_x_tally, .int x_textFault, .int x_readFault])), (a_L, .inr (4, [.ref a_L_traits, .int L_draws, .int L_foot, .int L_point, .int L_stiff, .int L_bears, .int L_year])), (a_L_traits, .inl (k 0, 20, .inl L_traits))] out sz := by
  refine z_meti (cc := cX5_draw) (maxL := 3) (by decide) rfl (Nat.le_of_ble_eq_true rfl) ?_
  intro p e s m below meth c A Q H locs ls hx hb hml hts hown hA hK hE hret hP hD hS hl
  have hown : s.vm.findClass RX5 = some m.cls := hown
  have hl : lv_has ls 3 [(0, .ref a_x), (1, .int u1), (2, .int u2)] := hl
  unfold p_X5_draw at h
  refine lv_aload_n hx hb dX5_draw_0 rfl (lv_at hl 0 rfl) ?_
  refine va_get (D := G) (ci := 5) (v := .ref a_L) (C := RX5) (T := TX5) (N := 12) hx hb hts iw_X5_draw_X5 hown hK hP 0 rfl rfl 0 (by decide) (hts (.fieldLink RX5 10 "SpireLean" "live" "LSpireLean$Town;") (List.mem_of_getElem? (i := 1) rfl)) (fun _ h9 => h9) rfl dX5_draw_1 ?_
  refine lv_iload_n hx hb dX5_draw_4 rfl (lv_at hl 1 rfl) ?_
  obtain ⟨o1, hv, h⟩ := zb h
  refine z_goi (w2 := [(a_x, .inr (5, [.ref a_L, .ref a_T, .ref a_x_images, .ref a_x_kept, .ref a_P, .ref a_N, .ref a_D, .ref a_x_sheets, .ref a_x_points, .ref a_x_tally, .int x_textFault, .int x_readFault])), (a_L, .inr (4, [.ref a_L_traits, .int L_draws, .int L_foot, .int L_point, .int L_stiff, .int L_bears, .int L_year])), (a_L_traits, .inl (k 0, 20, .inl L_traits))]) [1] (va_runVN (As := [.int u1]) (rest := []) ⟨hx, hb, hml, hown, hts⟩ (c_X4_hasDraw l G k tL tM sK sV a_L a_L_traits H.size L_draws L_foot L_point L_stiff L_bears L_year u1 o1 hv) ⟨va_cnB 1 hts gX5_draw_X4_hasDraw_n129 rfl rfl rfl (hE.1 (.methodLinkNest RX5 129 yX4_hasDraw "SpireLean") (List.mem_of_getElem? (i := 41) rfl)) (hts (.initialized RX4) (List.mem_of_getElem? (i := 3) rfl)) (by decide +kernel) ⟨Nat.le_of_ble_eq_true rfl, Nat.le_of_ble_eq_true rfl⟩, (hts (.instanceMethod yX4_hasDraw) (List.mem_of_getElem? (i := 2) rfl)), (hts (.selects RX4 yX4_hasDraw yX4_hasDraw) (List.mem_of_getElem? (i := 4) rfl))⟩ (z_preV (wc := [(a_L, .inr (4, [.ref a_L_traits, .int L_draws, .int L_foot, .int L_point, .int L_stiff, .int L_bears, .int L_year]))]) [1] 1 4 hK hE hA hP hD hS (by decide) rfl rfl rfl) rfl rfl hl.1 rfl (lv_room (Nat.le_of_ble_eq_true rfl)) dX5_draw_5 ⟨Nat.le_refl _, Nat.le_refl _⟩) hA hP hD hS rfl rfl rfl rfl (fun H locs hP hD hS => ?_)
  refine lv_if_ne (tgt := 13) hx hb dX5_draw_8 (by decide) (fun c18 => ?_) (fun c18 => ?_)
  · have h := zif c18 h
    refine lv_iload_n hx hb dX5_draw_13 rfl (lv_at hl 2 rfl) ?_
    by_cases c2 : u2 = (0 : Int32)
    · have h := zit c2 h
      refine lv_tableIn (off := 42) (tgt := 56) hx hb dX5_draw_14 (by rw [c2]; decide) (by rw [c2]; decide) (by rw [c2]; decide) (by decide) ?_
      refine lv_aload_n hx hb dX5_draw_56 rfl (lv_at hl 0 rfl) ?_
      refine va_get (D := G) (ci := 5) (v := .ref a_L) (C := RX5) (T := TX5) (N := 12) hx hb hts iw_X5_draw_X5 hown hK hP 0 rfl rfl 0 (by decide) (hts (.fieldLink RX5 10 "SpireLean" "live" "LSpireLean$Town;") (List.mem_of_getElem? (i := 1) rfl)) (fun _ h9 => h9) rfl dX5_draw_57 ?_
      refine lv_iload_n hx hb dX5_draw_60 rfl (lv_at hl 1 rfl) ?_
      refine lv_iload_n hx hb dX5_draw_61 rfl (lv_at hl 2 rfl) ?_
      obtain ⟨o3, hv, h⟩ := zb h
      refine z_goi (w2 := [(a_x, .inr (5, [.ref a_L, .ref a_T, .ref a_x_images, .ref a_x_kept, .ref a_P, .ref a_N, .ref a_D, .ref a_x_sheets, .ref a_x_points, .ref a_x_tally, .int x_textFault, .int x_readFault])), (a_L, .inr (4, [.ref a_L_traits, .int L_draws, .int L_foot, .int L_point, .int L_stiff, .int L_bears, .int L_year])), (a_L_traits, .inl (k 0, 20, .inl L_traits))]) [1, 2] (va_runVN (As := [.int u1, .int u2]) (rest := []) ⟨hx, hb, hml, hown, hts⟩ (c_X4_trait l G k tL tM sK sV a_L a_L_traits H.size L_draws L_foot L_point L_stiff L_bears L_year L_traits u1 u2 o3 hv) ⟨va_cnB 2 hts gX5_draw_X4_trait_n133 rfl rfl rfl (hE.1 (.methodLinkNest RX5 133 yX4_trait "SpireLean") (List.mem_of_getElem? (i := 42) rfl)) (hts (.initialized RX4) (List.mem_of_getElem? (i := 3) rfl)) (by decide +kernel) ⟨Nat.le_of_ble_eq_true rfl, Nat.le_of_ble_eq_true rfl⟩, (hts (.instanceMethod yX4_trait) (List.mem_of_getElem? (i := 7) rfl)), (hts (.selects RX4 yX4_trait yX4_trait) (List.mem_of_getElem? (i := 8) rfl))⟩ (z_preV (wc := [(a_L, .inr (4, [.ref a_L_traits, .int L_draws, .int L_foot, .int L_point, .int L_stiff, .int L_bears, .int L_year])), (a_L_traits, .inl (k 0, 20, .inl L_traits))]) [1, 2] 1 4 hK hE hA hP hD hS (by decide) rfl rfl rfl) rfl rfl hl.1 rfl (lv_room (Nat.le_of_ble_eq_true rfl)) dX5_draw_62 ⟨Nat.le_refl _, Nat.le_refl _⟩) hA hP hD hS rfl rfl rfl rfl (fun H locs hP hD hS => ?_)
      have hr := (zs h)
      subst hr
      exact hret H locs ls 65 hP hS dX5_draw_65
    · have h := zif c2 h
      by_cases c4 : u2 = (1 : Int32)
      · have h := zit c4 h
        refine lv_tableIn (off := 42) (tgt := 56) hx hb dX5_draw_14 (by rw [c4]; decide) (by rw [c4]; decide) (by rw [c4]; decide) (by decide) ?_
        refine lv_aload_n hx hb dX5_draw_56 rfl (lv_at hl 0 rfl) ?_
        refine va_get (D := G) (ci := 5) (v := .ref a_L) (C := RX5) (T := TX5) (N := 12) hx hb hts iw_X5_draw_X5 hown hK hP 0 rfl rfl 0 (by decide) (hts (.fieldLink RX5 10 "SpireLean" "live" "LSpireLean$Town;") (List.mem_of_getElem? (i := 1) rfl)) (fun _ h9 => h9) rfl dX5_draw_57 ?_
        refine lv_iload_n hx hb dX5_draw_60 rfl (lv_at hl 1 rfl) ?_
        refine lv_iload_n hx hb dX5_draw_61 rfl (lv_at hl 2 rfl) ?_
        obtain ⟨o5, hv, h⟩ := zb h
        refine z_goi (w2 := [(a_x, .inr (5, [.ref a_L, .ref a_T, .ref a_x_images, .ref a_x_kept, .ref a_P, .ref a_N, .ref a_D, .ref a_x_sheets, .ref a_x_points, .ref a_x_tally, .int x_textFault, .int x_readFault])), (a_L, .inr (4, [.ref a_L_traits, .int L_draws, .int L_foot, .int L_point, .int L_stiff, .int L_bears, .int L_year])), (a_L_traits, .inl (k 0, 20, .inl L_traits))]) [1, 2] (va_runVN (As := [.int u1, .int u2]) (rest := []) ⟨hx, hb, hml, hown, hts⟩ (c_X4_trait l G k tL tM sK sV a_L a_L_traits H.size L_draws L_foot L_point L_stiff L_bears L_year L_traits u1 u2 o5 hv) ⟨va_cnB 2 hts gX5_draw_X4_trait_n133 rfl rfl rfl (hE.1 (.methodLinkNest RX5 133 yX4_trait "SpireLean") (List.mem_of_getElem? (i := 42) rfl)) (hts (.initialized RX4) (List.mem_of_getElem? (i := 3) rfl)) (by decide +kernel) ⟨Nat.le_of_ble_eq_true rfl, Nat.le_of_ble_eq_true rfl⟩, (hts (.instanceMethod yX4_trait) (List.mem_of_getElem? (i := 7) rfl)), (hts (.selects RX4 yX4_trait yX4_trait) (List.mem_of_getElem? (i := 8) rfl))⟩ (z_preV (wc := [(a_L, .inr (4, [.ref a_L_traits, .int L_draws, .int L_foot, .int L_point, .int L_stiff, .int L_bears, .int L_year])), (a_L_traits, .inl (k 0, 20, .inl L_traits))]) [1, 2] 1 4 hK hE hA hP hD hS (by decide) rfl rfl rfl) rfl rfl hl.1 rfl (lv_room (Nat.le_of_ble_eq_true rfl)) dX5_draw_62 ⟨Nat.le_refl _, Nat.le_refl _⟩) hA hP hD hS rfl rfl rfl rfl (fun H locs hP hD hS => ?_)
        have hr := (zs h)
        subst hr
        exact hret H locs ls 65 hP hS dX5_draw_65
      · have h := zif c4 h
        by_cases c6 : u2 = (2 : Int32)
        · have h := zit c6 h
          refine lv_tableIn (off := 42) (tgt := 56) hx hb dX5_draw_14 (by rw [c6]; decide) (by rw [c6]; decide) (by rw [c6]; decide) (by decide) ?_
          refine lv_aload_n hx hb dX5_draw_56 rfl (lv_at hl 0 rfl) ?_
          refine va_get (D := G) (ci := 5) (v := .ref a_L) (C := RX5) (T := TX5) (N := 12) hx hb hts iw_X5_draw_X5 hown hK hP 0 rfl rfl 0 (by decide) (hts (.fieldLink RX5 10 "SpireLean" "live" "LSpireLean$Town;") (List.mem_of_getElem? (i := 1) rfl)) (fun _ h9 => h9) rfl dX5_draw_57 ?_
          refine lv_iload_n hx hb dX5_draw_60 rfl (lv_at hl 1 rfl) ?_
          refine lv_iload_n hx hb dX5_draw_61 rfl (lv_at hl 2 rfl) ?_
          obtain ⟨o7, hv, h⟩ := zb h
          refine z_goi (w2 := [(a_x, .inr (5, [.ref a_L, .ref a_T, .ref a_x_images, .ref a_x_kept, .ref a_P, .ref a_N, .ref a_D, .ref a_x_sheets, .ref a_x_points, .ref a_x_tally, .int x_textFault, .int x_readFault])), (a_L, .inr (4, [.ref a_L_traits, .int L_draws, .int L_foot, .int L_point, .int L_stiff, .int L_bears, .int L_year])), (a_L_traits, .inl (k 0, 20, .inl L_traits))]) [1, 2] (va_runVN (As := [.int u1, .int u2]) (rest := []) ⟨hx, hb, hml, hown, hts⟩ (c_X4_trait l G k tL tM sK sV a_L a_L_traits H.size L_draws L_foot L_point L_stiff L_bears L_year L_traits u1 u2 o7 hv) ⟨va_cnB 2 hts gX5_draw_X4_trait_n133 rfl rfl rfl (hE.1 (.methodLinkNest RX5 133 yX4_trait "SpireLean") (List.mem_of_getElem? (i := 42) rfl)) (hts (.initialized RX4) (List.mem_of_getElem? (i := 3) rfl)) (by decide +kernel) ⟨Nat.le_of_ble_eq_true rfl, Nat.le_of_ble_eq_true rfl⟩, (hts (.instanceMethod yX4_trait) (List.mem_of_getElem? (i := 7) rfl)), (hts (.selects RX4 yX4_trait yX4_trait) (List.mem_of_getElem? (i := 8) rfl))⟩ (z_preV (wc := [(a_L, .inr (4, [.ref a_L_traits, .int L_draws, .int L_foot, .int L_point, .int L_stiff, .int L_bears, .int L_year])), (a_L_traits, .inl (k 0, 20, .inl L_traits))]) [1, 2] 1 4 hK hE hA hP hD hS (by decide) rfl rfl rfl) rfl rfl hl.1 rfl (lv_room (Nat.le_of_ble_eq_true rfl)) dX5_draw_62 ⟨Nat.le_refl _, Nat.le_refl _⟩) hA hP hD hS rfl rfl rfl rfl (fun H locs hP hD hS => ?_)
          have hr := (zs h)
          subst hr
          exact hret H locs ls 65 hP hS dX5_draw_65
        · have h := zif c6 h
          by_cases c8 : u2 = (3 : Int32)
          · have h := zit c8 h
            refine lv_tableIn (off := 42) (tgt := 56) hx hb dX5_draw_14 (by rw [c8]; decide) (by rw [c8]; decide) (by rw [c8]; decide) (by decide) ?_
            refine lv_aload_n hx hb dX5_draw_56 rfl (lv_at hl 0 rfl) ?_
            refine va_get (D := G) (ci := 5) (v := .ref a_L) (C := RX5) (T := TX5) (N := 12) hx hb hts iw_X5_draw_X5 hown hK hP 0 rfl rfl 0 (by decide) (hts (.fieldLink RX5 10 "SpireLean" "live" "LSpireLean$Town;") (List.mem_of_getElem? (i := 1) rfl)) (fun _ h9 => h9) rfl dX5_draw_57 ?_
            refine lv_iload_n hx hb dX5_draw_60 rfl (lv_at hl 1 rfl) ?_
            refine lv_iload_n hx hb dX5_draw_61 rfl (lv_at hl 2 rfl) ?_
            obtain ⟨o9, hv, h⟩ := zb h
            refine z_goi (w2 := [(a_x, .inr (5, [.ref a_L, .ref a_T, .ref a_x_images, .ref a_x_kept, .ref a_P, .ref a_N, .ref a_D, .ref a_x_sheets, .ref a_x_points, .ref a_x_tally, .int x_textFault, .int x_readFault])), (a_L, .inr (4, [.ref a_L_traits, .int L_draws, .int L_foot, .int L_point, .int L_stiff, .int L_bears, .int L_year])), (a_L_traits, .inl (k 0, 20, .inl L_traits))]) [1, 2] (va_runVN (As := [.int u1, .int u2]) (rest := []) ⟨hx, hb, hml, hown, hts⟩ (c_X4_trait l G k tL tM sK sV a_L a_L_traits H.size L_draws L_foot L_point L_stiff L_bears L_year L_traits u1 u2 o9 hv) ⟨va_cnB 2 hts gX5_draw_X4_trait_n133 rfl rfl rfl (hE.1 (.methodLinkNest RX5 133 yX4_trait "SpireLean") (List.mem_of_getElem? (i := 42) rfl)) (hts (.initialized RX4) (List.mem_of_getElem? (i := 3) rfl)) (by decide +kernel) ⟨Nat.le_of_ble_eq_true rfl, Nat.le_of_ble_eq_true rfl⟩, (hts (.instanceMethod yX4_trait) (List.mem_of_getElem? (i := 7) rfl)), (hts (.selects RX4 yX4_trait yX4_trait) (List.mem_of_getElem? (i := 8) rfl))⟩ (z_preV (wc := [(a_L, .inr (4, [.ref a_L_traits, .int L_draws, .int L_foot, .int L_point, .int L_stiff, .int L_bears, .int L_year])), (a_L_traits, .inl (k 0, 20, .inl L_traits))]) [1, 2] 1 4 hK hE hA hP hD hS (by decide) rfl rfl rfl) rfl rfl hl.1 rfl (lv_room (Nat.le_of_ble_eq_true rfl)) dX5_draw_62 ⟨Nat.le_refl _, Nat.le_refl _⟩) hA hP hD hS rfl rfl rfl rfl (fun H locs hP hD hS => ?_)
            have hr := (zs h)
            subst hr
            exact hret H locs ls 65 hP hS dX5_draw_65
          · have h := zif c8 h
            by_cases c10 : u2 = (4 : Int32)
            · have h := zit c10 h
              refine lv_tableIn (off := 52) (tgt := 66) hx hb dX5_draw_14 (by rw [c10]; decide) (by rw [c10]; decide) (by rw [c10]; decide) (by decide) ?_
              refine lv_aload_n hx hb dX5_draw_66 rfl (lv_at hl 0 rfl) ?_
              refine va_get (D := G) (ci := 5) (v := .ref a_L) (C := RX5) (T := TX5) (N := 12) hx hb hts iw_X5_draw_X5 hown hK hP 0 rfl rfl 0 (by decide) (hts (.fieldLink RX5 10 "SpireLean" "live" "LSpireLean$Town;") (List.mem_of_getElem? (i := 1) rfl)) (fun _ h9 => h9) rfl dX5_draw_67 ?_
              refine lv_iload_n hx hb dX5_draw_70 rfl (lv_at hl 1 rfl) ?_
              refine lv_iconst (v := 0) hx hb dX5_draw_71 (by decide) ?_
              obtain ⟨o11, hv, h⟩ := zb h
              refine z_goi (w2 := [(a_x, .inr (5, [.ref a_L, .ref a_T, .ref a_x_images, .ref a_x_kept, .ref a_P, .ref a_N, .ref a_D, .ref a_x_sheets, .ref a_x_points, .ref a_x_tally, .int x_textFault, .int x_readFault])), (a_L, .inr (4, [.ref a_L_traits, .int L_draws, .int L_foot, .int L_point, .int L_stiff, .int L_bears, .int L_year])), (a_L_traits, .inl (k 0, 20, .inl L_traits))]) [1, 2] (va_runVN (As := [.int u1, .int (0 : Int32)]) (rest := []) ⟨hx, hb, hml, hown, hts⟩ (c_X4_trait l G k tL tM sK sV a_L a_L_traits H.size L_draws L_foot L_point L_stiff L_bears L_year L_traits u1 (0 : Int32) o11 hv) ⟨va_cnB 2 hts gX5_draw_X4_trait_n133 rfl rfl rfl (hE.1 (.methodLinkNest RX5 133 yX4_trait "SpireLean") (List.mem_of_getElem? (i := 42) rfl)) (hts (.initialized RX4) (List.mem_of_getElem? (i := 3) rfl)) (by decide +kernel) ⟨Nat.le_of_ble_eq_true rfl, Nat.le_of_ble_eq_true rfl⟩, (hts (.instanceMethod yX4_trait) (List.mem_of_getElem? (i := 7) rfl)), (hts (.selects RX4 yX4_trait yX4_trait) (List.mem_of_getElem? (i := 8) rfl))⟩ (z_preV (wc := [(a_L, .inr (4, [.ref a_L_traits, .int L_draws, .int L_foot, .int L_point, .int L_stiff, .int L_bears, .int L_year])), (a_L_traits, .inl (k 0, 20, .inl L_traits))]) [1, 2] 1 4 hK hE hA hP hD hS (by decide) rfl rfl rfl) rfl rfl hl.1 rfl (lv_room (Nat.le_of_ble_eq_true rfl)) dX5_draw_72 ⟨Nat.le_refl _, Nat.le_refl _⟩) hA hP hD hS rfl rfl rfl rfl (fun H locs hP hD hS => ?_)
              refine lv_aload_n hx hb dX5_draw_75 rfl (lv_at hl 0 rfl) ?_
              refine va_get (D := G) (ci := 5) (v := .ref a_L) (C := RX5) (T := TX5) (N := 12) hx hb hts iw_X5_draw_X5 hown hK hP 0 rfl rfl 0 (by decide) (hts (.fieldLink RX5 10 "SpireLean" "live" "LSpireLean$Town;") (List.mem_of_getElem? (i := 1) rfl)) (fun _ h9 => h9) rfl dX5_draw_76 ?_
              refine lv_iload_n hx hb dX5_draw_79 rfl (lv_at hl 1 rfl) ?_
              refine lv_iconst (v := 1) hx hb dX5_draw_80 (by decide) ?_
              obtain ⟨o12, hv, h⟩ := zb h
              refine z_goi (w2 := [(a_x, .inr (5, [.ref a_L, .ref a_T, .ref a_x_images, .ref a_x_kept, .ref a_P, .ref a_N, .ref a_D, .ref a_x_sheets, .ref a_x_points, .ref a_x_tally, .int x_textFault, .int x_readFault])), (a_L, .inr (4, [.ref a_L_traits, .int L_draws, .int L_foot, .int L_point, .int L_stiff, .int L_bears, .int L_year])), (a_L_traits, .inl (k 0, 20, .inl L_traits))]) [1, 2] (va_runVN (As := [.int u1, .int (1 : Int32)]) (rest := [.int o11]) ⟨hx, hb, hml, hown, hts⟩ (c_X4_trait l G k tL tM sK sV a_L a_L_traits H.size L_draws L_foot L_point L_stiff L_bears L_year L_traits u1 (1 : Int32) o12 hv) ⟨va_cnB 2 hts gX5_draw_X4_trait_n133 rfl rfl rfl (hE.1 (.methodLinkNest RX5 133 yX4_trait "SpireLean") (List.mem_of_getElem? (i := 42) rfl)) (hts (.initialized RX4) (List.mem_of_getElem? (i := 3) rfl)) (by decide +kernel) ⟨Nat.le_of_ble_eq_true rfl, Nat.le_of_ble_eq_true rfl⟩, (hts (.instanceMethod yX4_trait) (List.mem_of_getElem? (i := 7) rfl)), (hts (.selects RX4 yX4_trait yX4_trait) (List.mem_of_getElem? (i := 8) rfl))⟩ (z_preV (wc := [(a_L, .inr (4, [.ref a_L_traits, .int L_draws, .int L_foot, .int L_point, .int L_stiff, .int L_bears, .int L_year])), (a_L_traits, .inl (k 0, 20, .inl L_traits))]) [1, 2] 1 4 hK hE hA hP hD hS (by decide) rfl rfl rfl) rfl rfl hl.1 rfl (lv_room (Nat.le_of_ble_eq_true rfl)) dX5_draw_81 ⟨Nat.le_refl _, Nat.le_refl _⟩) hA hP hD hS rfl rfl rfl rfl (fun H locs hP hD hS => ?_)
              obtain ⟨o13, hv, h⟩ := zb h
              refine z_goi (w2 := [(a_x, .inr (5, [.ref a_L, .ref a_T, .ref a_x_images, .ref a_x_kept, .ref a_P, .ref a_N, .ref a_D, .ref a_x_sheets, .ref a_x_points, .ref a_x_tally, .int x_textFault, .int x_readFault])), (a_L, .inr (4, [.ref a_L_traits, .int L_draws, .int L_foot, .int L_point, .int L_stiff, .int L_bears, .int L_year])), (a_L_traits, .inl (k 0, 20, .inl L_traits))]) [] (va_runSN (As := [.int o11, .int o12]) (rest := []) ⟨hx, hb, hml, hown, hts⟩ (c_X4_strength l G k tL tM sK sV H.size o11 o12 o13 hv) ⟨va_cnB 2 hts gX5_draw_X4_strength_n137 rfl rfl rfl (hE.1 (.methodLinkNest RX5 137 yX4_strength "SpireLean") (List.mem_of_getElem? (i := 43) rfl)) (hts (.initialized RX4) (List.mem_of_getElem? (i := 3) rfl)) (by decide +kernel) ⟨Nat.le_of_ble_eq_true rfl, Nat.le_of_ble_eq_true rfl⟩, (hts (.static yX4_strength) (List.mem_of_getElem? (i := 11) rfl)), trivial⟩ (z_preS (wc := []) [] hK hE hA hP hD hS (by decide) rfl) rfl rfl hl.1 rfl (lv_room (Nat.le_of_ble_eq_true rfl)) dX5_draw_84 ⟨Nat.le_refl _, Nat.le_refl _⟩) hA hP hD hS rfl rfl rfl rfl (fun H locs hP hD hS => ?_)
              have hr := (zs h)
              subst hr
              exact hret H locs ls 87 hP hS dX5_draw_87
            · have h := zif c10 h
              by_cases c14 : u2 = (5 : Int32)
              · have h := zit c14 h
                refine lv_tableIn (off := 74) (tgt := 88) hx hb dX5_draw_14 (by rw [c14]; decide) (by rw [c14]; decide) (by rw [c14]; decide) (by decide) ?_
                refine lv_aload_n hx hb dX5_draw_88 rfl (lv_at hl 0 rfl) ?_
                refine va_get (D := G) (ci := 5) (v := .ref a_L) (C := RX5) (T := TX5) (N := 12) hx hb hts iw_X5_draw_X5 hown hK hP 0 rfl rfl 0 (by decide) (hts (.fieldLink RX5 10 "SpireLean" "live" "LSpireLean$Town;") (List.mem_of_getElem? (i := 1) rfl)) (fun _ h9 => h9) rfl dX5_draw_89 ?_
                refine lv_iload_n hx hb dX5_draw_92 rfl (lv_at hl 1 rfl) ?_
                obtain ⟨o15, hv, h⟩ := zb h
                refine z_goi (w2 := [(a_x, .inr (5, [.ref a_L, .ref a_T, .ref a_x_images, .ref a_x_kept, .ref a_P, .ref a_N, .ref a_D, .ref a_x_sheets, .ref a_x_points, .ref a_x_tally, .int x_textFault, .int x_readFault])), (a_L, .inr (4, [.ref a_L_traits, .int L_draws, .int L_foot, .int L_point, .int L_stiff, .int L_bears, .int L_year])), (a_L_traits, .inl (k 0, 20, .inl L_traits))]) [1, 2] (va_runVN (As := [.int u1]) (rest := []) ⟨hx, hb, hml, hown, hts⟩ (c_X4_force l G k tL tM sK sV a_L a_L_traits H.size L_draws L_foot L_point L_stiff L_bears L_year L_traits u1 o15 hv) ⟨va_cnB 1 hts gX5_draw_X4_force_n140 rfl rfl rfl (hE.1 (.methodLinkNest RX5 140 yX4_force "SpireLean") (List.mem_of_getElem? (i := 44) rfl)) (hts (.initialized RX4) (List.mem_of_getElem? (i := 3) rfl)) (by decide +kernel) ⟨Nat.le_of_ble_eq_true rfl, Nat.le_of_ble_eq_true rfl⟩, (hts (.instanceMethod yX4_force) (List.mem_of_getElem? (i := 13) rfl)), (hts (.selects RX4 yX4_force yX4_force) (List.mem_of_getElem? (i := 14) rfl))⟩ (z_preV (wc := [(a_L, .inr (4, [.ref a_L_traits, .int L_draws, .int L_foot, .int L_point, .int L_stiff, .int L_bears, .int L_year])), (a_L_traits, .inl (k 0, 20, .inl L_traits))]) [1, 2] 1 4 hK hE hA hP hD hS (by decide) rfl rfl rfl) rfl rfl hl.1 rfl (lv_room (Nat.le_of_ble_eq_true rfl)) dX5_draw_93 ⟨Nat.le_refl _, Nat.le_refl _⟩) hA hP hD hS rfl rfl rfl rfl (fun H locs hP hD hS => ?_)
                have hr := (zs h)
                subst hr
                exact hret H locs ls 96 hP hS dX5_draw_96
              · have h := zif c14 h
                by_cases c16 : u2 = (6 : Int32)
                · have h := zit c16 h
                  refine lv_tableIn (off := 83) (tgt := 97) hx hb dX5_draw_14 (by rw [c16]; decide) (by rw [c16]; decide) (by rw [c16]; decide) (by decide) ?_
                  refine lv_aload_n hx hb dX5_draw_97 rfl (lv_at hl 0 rfl) ?_
                  refine va_get (D := G) (ci := 5) (v := .ref a_L) (C := RX5) (T := TX5) (N := 12) hx hb hts iw_X5_draw_X5 hown hK hP 0 rfl rfl 0 (by decide) (hts (.fieldLink RX5 10 "SpireLean" "live" "LSpireLean$Town;") (List.mem_of_getElem? (i := 1) rfl)) (fun _ h9 => h9) rfl dX5_draw_98 ?_
                  refine lv_iload_n hx hb dX5_draw_101 rfl (lv_at hl 1 rfl) ?_
                  obtain ⟨o17, hv, h⟩ := zb h
                  refine z_goi (w2 := [(a_x, .inr (5, [.ref a_L, .ref a_T, .ref a_x_images, .ref a_x_kept, .ref a_P, .ref a_N, .ref a_D, .ref a_x_sheets, .ref a_x_points, .ref a_x_tally, .int x_textFault, .int x_readFault])), (a_L, .inr (4, [.ref a_L_traits, .int L_draws, .int L_foot, .int L_point, .int L_stiff, .int L_bears, .int L_year])), (a_L_traits, .inl (k 0, 20, .inl L_traits))]) [1, 2] (va_runVN (As := [.int u1]) (rest := []) ⟨hx, hb, hml, hown, hts⟩ (c_X4_gap l G k tL tM sK sV a_L a_L_traits H.size L_draws L_foot L_point L_stiff L_bears L_year L_traits u1 o17 hv) ⟨va_cnB 1 hts gX5_draw_X4_gap_n143 rfl rfl rfl (hE.1 (.methodLinkNest RX5 143 yX4_gap "SpireLean") (List.mem_of_getElem? (i := 45) rfl)) (hts (.initialized RX4) (List.mem_of_getElem? (i := 3) rfl)) (by decide +kernel) ⟨Nat.le_of_ble_eq_true rfl, Nat.le_of_ble_eq_true rfl⟩, (hts (.instanceMethod yX4_gap) (List.mem_of_getElem? (i := 23) rfl)), (hts (.selects RX4 yX4_gap yX4_gap) (List.mem_of_getElem? (i := 24) rfl))⟩ (z_preV (wc := [(a_L, .inr (4, [.ref a_L_traits, .int L_draws, .int L_foot, .int L_point, .int L_stiff, .int L_bears, .int L_year])), (a_L_traits, .inl (k 0, 20, .inl L_traits))]) [1, 2] 1 4 hK hE hA hP hD hS (by decide) rfl rfl rfl) rfl rfl hl.1 rfl (lv_room (Nat.le_of_ble_eq_true rfl)) dX5_draw_102 ⟨Nat.le_refl _, Nat.le_refl _⟩) hA hP hD hS rfl rfl rfl rfl (fun H locs hP hD hS => ?_)
                  have hr := (zs h)
                  subst hr
                  exact hret H locs ls 105 hP hS dX5_draw_105
                · have h := zif c16 h
                  have hw : (u2).toInt < 0 ∨ 6 < (u2).toInt := by
                    have e0 : (u2).toInt ≠ 0 := fun q => c2 (Int32.toInt_inj.mp q)
                    have e1 : (u2).toInt ≠ 1 := fun q => c4 (Int32.toInt_inj.mp q)
                    have e2 : (u2).toInt ≠ 2 := fun q => c6 (Int32.toInt_inj.mp q)
                    have e3 : (u2).toInt ≠ 3 := fun q => c8 (Int32.toInt_inj.mp q)
                    have e4 : (u2).toInt ≠ 4 := fun q => c10 (Int32.toInt_inj.mp q)
                    have e5 : (u2).toInt ≠ 5 := fun q => c14 (Int32.toInt_inj.mp q)
                    have e6 : (u2).toInt ≠ 6 := fun q => c16 (Int32.toInt_inj.mp q)
                    omega
                  refine lv_tableOut (tgt := 106) hx hb dX5_draw_14 hw (by decide) ?_
                  refine lv_iconst (v := (-1)) hx hb dX5_draw_106 (by decide) ?_
                  have hr := (zs h)
                  subst hr
                  exact hret H locs ls 107 hP hS dX5_draw_107
  · have h := zit c18 h
    refine lv_iconst (v := (-1)) hx hb dX5_draw_11 (by decide) ?_
    have hr := (zs h)
    subst hr
    exact hret H locs ls 12 hP hS dX5_draw_12
set_option maxHeartbeats 4000000 in
set_option maxRecDepth 100000 in
theorem c_X5_fitsTrait (l : Launch) (G : va_G) (k : Nat → ClassId) (tL tM : Nat) (sK sV : Nat → Nat) (sz : Nat) (u1 : Int32) (u2 : Int32) (out : Int32) (h : p_X5_fitsTrait u1 u2 = some out) : zMi l yX5_fitsTrait wsX5_fitsTrait 1 22 G k tL tM sK sV [.int u1, .int u2] [] [] out sz := by
  refine z_metz (cc := cX5_fitsTrait) (maxL := 2) (by decide) rfl (Nat.le_of_ble_eq_true rfl) ?_
  intro p e s m below meth c A Q H locs ls hx hb hml hts hown hA hK hE hret hP hD hS hl
  have hown : s.vm.findClass RX5 = some m.cls := hown
  have hl : lv_has ls 2 [(0, .int u1), (1, .int u2)] := hl
  unfold p_X5_fitsTrait at h
  refine lv_iload_n hx hb dX5_fitsTrait_0 rfl (lv_at hl 0 rfl) ?_
  refine lv_iconst (v := 0) hx hb dX5_fitsTrait_1 (by decide) ?_
  refine lv_iconst (v := 3) hx hb dX5_fitsTrait_2 (by decide) ?_
  obtain ⟨o1, hv, h⟩ := zb h
  refine z_goi (w2 := []) [] (va_runS (As := [.int u1, .int (0 : Int32), .int (3 : Int32)]) (rest := []) ⟨hx, hb, hml, hown, hts⟩ (c_X5_within l G k tL tM sK sV H.size u1 (0 : Int32) (3 : Int32) o1 hv) (va_cwS 3 hts gX5_fitsTrait_X5_within rfl rfl rfl (by decide +kernel) ⟨Nat.le_of_ble_eq_true rfl, Nat.le_of_ble_eq_true rfl⟩) (z_preS (wc := []) [] hK hE hA hP hD hS (by decide) rfl) rfl rfl hl.1 rfl (lv_room (Nat.le_of_ble_eq_true rfl)) dX5_fitsTrait_3 ⟨Nat.le_refl _, Nat.le_refl _⟩) hA hP hD hS rfl rfl rfl rfl (fun H locs hP hD hS => ?_)
  refine lv_if_eq (tgt := 30) hx hb dX5_fitsTrait_6 (by decide) (fun c6 => ?_) (fun c6 => ?_)
  · have h := zit c6 h
    refine lv_iconst (v := 0) hx hb dX5_fitsTrait_30 (by decide) ?_
    have hr := (zs h)
    subst hr
    exact hret H locs ls 31 (Or.inl rfl) hP hS dX5_fitsTrait_31
  · have h := zif c6 h
    refine lv_iload_n hx hb dX5_fitsTrait_9 rfl (lv_at hl 1 rfl) ?_
    refine va_gets (C := "SpireLean") hx hb hE.2.1 hS hown (hts (.fieldLink RX5 198 "SpireLean" "LEAST" "[I") (List.mem_of_getElem? (i := 1) rfl)) (fun _ h9 => h9) dX5_fitsTrait_10 ?_
    refine lv_iload_n hx hb dX5_fitsTrait_13 rfl (lv_at hl 0 rfl) ?_
    obtain ⟨v2, hv, h⟩ := zb h
    refine z_sti hx hb hE.2.2.2.1 hS hv dX5_fitsTrait_14 ?_
    refine va_gets (C := "SpireLean") hx hb hE.2.2.1 hS hown (hts (.fieldLink RX5 201 "SpireLean" "MOST" "[I") (List.mem_of_getElem? (i := 2) rfl)) (fun _ h9 => h9) dX5_fitsTrait_15 ?_
    refine lv_iload_n hx hb dX5_fitsTrait_18 rfl (lv_at hl 0 rfl) ?_
    obtain ⟨v3, hv, h⟩ := zb h
    refine z_sti hx hb hE.2.2.2.2.1 hS hv dX5_fitsTrait_19 ?_
    obtain ⟨o4, hv, h⟩ := zb h
    refine z_goi (w2 := []) [] (va_runS (As := [.int u2, .int v2, .int v3]) (rest := []) ⟨hx, hb, hml, hown, hts⟩ (c_X5_within l G k tL tM sK sV H.size u2 v2 v3 o4 hv) (va_cwS 3 hts gX5_fitsTrait_X5_within rfl rfl rfl (by decide +kernel) ⟨Nat.le_of_ble_eq_true rfl, Nat.le_of_ble_eq_true rfl⟩) (z_preS (wc := []) [] hK hE hA hP hD hS (by decide) rfl) rfl rfl hl.1 rfl (lv_room (Nat.le_of_ble_eq_true rfl)) dX5_fitsTrait_20 ⟨Nat.le_refl _, Nat.le_refl _⟩) hA hP hD hS rfl rfl rfl rfl (fun H locs hP hD hS => ?_)
    refine lv_if_eq (tgt := 30) hx hb dX5_fitsTrait_23 (by decide) (fun c5 => ?_) (fun c5 => ?_)
    · have h := zit c5 h
      refine lv_iconst (v := 0) hx hb dX5_fitsTrait_30 (by decide) ?_
      have hr := (zs h)
      subst hr
      exact hret H locs ls 31 (Or.inl rfl) hP hS dX5_fitsTrait_31
    · have h := zif c5 h
      refine lv_iconst (v := 1) hx hb dX5_fitsTrait_26 (by decide) ?_
      refine lv_goto (tgt := 31) hx hb dX5_fitsTrait_27 (by decide) ?_
      have hr := (zs h)
      subst hr
      exact hret H locs ls 31 (Or.inr rfl) hP hS dX5_fitsTrait_31
theorem iw_X5_alter_X5 : ∀ w ∈ wsX50, w ∈ wsX5_alter := fun _ h => List.mem_cons_of_mem _ (List.mem_append_left _ (List.mem_append_right _ h))
set_option maxHeartbeats 4000000 in
set_option maxRecDepth 100000 in
theorem c_X5_alter (l : Launch) (G : va_G) (k : Nat → ClassId) (tL tM : Nat) (sK sV : Nat → Nat) (a_x : Nat) (a_L : Nat) (a_T : Nat) (a_x_images : Nat) (a_x_kept : Nat) (a_P : Nat) (a_N : Nat) (a_D : Nat) (a_x_sheets : Nat) (a_x_points : Nat) (a_x_tally : Nat) (a_L_traits : Nat) (sz : Nat) (x_textFault : Int32) (x_readFault : Int32) (L_draws : Int32) (L_foot : Int32) (L_point : Int32) (L_stiff : Int32) (L_bears : Int32) (L_year : Int32) (L_traits : Nat → Int32) (u1 : Int32) (u2 : Int32) (u3 : Int32) (out : Int32 × (Nat → Int32)) (h : p_X5_alter u1 u2 u3 L_draws L_traits = some out) : zMi l yX5_alter wsX5_alter 2 43 G k tL tM sK sV [.ref a_x, .int u1, .int u2, .int u3] [(a_x, .inr (5, [.ref a_L, .ref a_T, .ref a_x_images, .ref a_x_kept, .ref a_P, .ref a_N, .ref a_D, .ref a_x_sheets, .ref a_x_points, .ref a_x_tally, .int x_textFault, .int x_readFault])), (a_L, .inr (4, [.ref a_L_traits, .int L_draws, .int L_foot, .int L_point, .int L_stiff, .int L_bears, .int L_year])), (a_L_traits, .inl (k 0, 20, .inl L_traits))] [(a_x, .inr (5, [.ref a_L, .ref a_T, .ref a_x_images, .ref a_x_kept, .ref a_P, .ref a_N, .ref a_D, .ref a_x_sheets, .ref a_x_points, .ref a_x_tally, .int x_textFault, .int x_readFault])), (a_L, .inr (4, [.ref a_L_traits, .int L_draws, .int L_foot, .int L_point, .int L_stiff, .int L_bears, .int L_year])), (a_L_traits, .inl (k 0, 20, .inl out.2))] out.1 sz := by
  refine z_meti (cc := cX5_alter) (maxL := 5) (by decide) rfl (Nat.le_of_ble_eq_true rfl) ?_
  intro p e s m below meth c A Q H locs ls hx hb hml hts hown hA hK hE hret hP hD hS hl
  have hown : s.vm.findClass RX5 = some m.cls := hown
  have hl : lv_has ls 5 [(0, .ref a_x), (1, .int u1), (2, .int u2), (3, .int u3)] := hl
  unfold p_X5_alter at h
  refine lv_aload_n hx hb dX5_alter_0 rfl (lv_at hl 0 rfl) ?_
  refine va_get (D := G) (ci := 5) (v := .ref a_L) (C := RX5) (T := TX5) (N := 12) hx hb hts iw_X5_alter_X5 hown hK hP 0 rfl rfl 0 (by decide) (hts (.fieldLink RX5 10 "SpireLean" "live" "LSpireLean$Town;") (List.mem_of_getElem? (i := 1) rfl)) (fun _ h9 => h9) rfl dX5_alter_1 ?_
  refine lv_iload_n hx hb dX5_alter_4 rfl (lv_at hl 1 rfl) ?_
  obtain ⟨o1, hv, h⟩ := zb h
  refine z_goi (w2 := [(a_x, .inr (5, [.ref a_L, .ref a_T, .ref a_x_images, .ref a_x_kept, .ref a_P, .ref a_N, .ref a_D, .ref a_x_sheets, .ref a_x_points, .ref a_x_tally, .int x_textFault, .int x_readFault])), (a_L, .inr (4, [.ref a_L_traits, .int L_draws, .int L_foot, .int L_point, .int L_stiff, .int L_bears, .int L_year])), (a_L_traits, .inl (k 0, 20, .inl L_traits))]) [1] (va_runVN (As := [.int u1]) (rest := []) ⟨hx, hb, hml, hown, hts⟩ (c_X4_hasDraw l G k tL tM sK sV a_L a_L_traits H.size L_draws L_foot L_point L_stiff L_bears L_year u1 o1 hv) ⟨va_cnB 1 hts gX5_alter_X4_hasDraw_n129 rfl rfl rfl (hE.1 (.methodLinkNest RX5 129 yX4_hasDraw "SpireLean") (List.mem_of_getElem? (i := 41) rfl)) (hts (.initialized RX4) (List.mem_of_getElem? (i := 3) rfl)) (by decide +kernel) ⟨Nat.le_of_ble_eq_true rfl, Nat.le_of_ble_eq_true rfl⟩, (hts (.instanceMethod yX4_hasDraw) (List.mem_of_getElem? (i := 2) rfl)), (hts (.selects RX4 yX4_hasDraw yX4_hasDraw) (List.mem_of_getElem? (i := 4) rfl))⟩ (z_preV (wc := [(a_L, .inr (4, [.ref a_L_traits, .int L_draws, .int L_foot, .int L_point, .int L_stiff, .int L_bears, .int L_year]))]) [1] 1 4 hK hE hA hP hD hS (by decide) rfl rfl rfl) rfl rfl hl.1 rfl (lv_room (Nat.le_of_ble_eq_true rfl)) dX5_alter_5 ⟨Nat.le_refl _, Nat.le_refl _⟩) hA hP hD hS rfl rfl rfl rfl (fun H locs hP hD hS => ?_)
  refine lv_if_eq (tgt := 19) hx hb dX5_alter_8 (by decide) (fun c6 => ?_) (fun c6 => ?_)
  · have h := zit c6 h
    refine lv_iconst (v := (-1)) hx hb dX5_alter_19 (by decide) ?_
    have hr := (zs h)
    subst hr
    exact hret H locs ls 20 hP hS dX5_alter_20
  · have h := zif c6 h
    refine lv_iload_n hx hb dX5_alter_11 rfl (lv_at hl 2 rfl) ?_
    refine lv_iload_n hx hb dX5_alter_12 rfl (lv_at hl 3 rfl) ?_
    obtain ⟨o2, hv, h⟩ := zb h
    refine z_goi (w2 := [(a_x, .inr (5, [.ref a_L, .ref a_T, .ref a_x_images, .ref a_x_kept, .ref a_P, .ref a_N, .ref a_D, .ref a_x_sheets, .ref a_x_points, .ref a_x_tally, .int x_textFault, .int x_readFault])), (a_L, .inr (4, [.ref a_L_traits, .int L_draws, .int L_foot, .int L_point, .int L_stiff, .int L_bears, .int L_year])), (a_L_traits, .inl (k 0, 20, .inl L_traits))]) [] (va_runS (As := [.int u2, .int u3]) (rest := []) ⟨hx, hb, hml, hown, hts⟩ (c_X5_fitsTrait l G k tL tM sK sV H.size u2 u3 o2 hv) (va_cwS 2 hts gX5_alter_X5_fitsTrait rfl rfl rfl (by decide +kernel) ⟨Nat.le_of_ble_eq_true rfl, Nat.le_of_ble_eq_true rfl⟩) (z_preS (wc := []) [] hK hE hA hP hD hS (by decide) rfl) rfl rfl hl.1 rfl (lv_room (Nat.le_of_ble_eq_true rfl)) dX5_alter_13 ⟨Nat.le_refl _, Nat.le_refl _⟩) hA hP hD hS rfl rfl rfl rfl (fun H locs hP hD hS => ?_)
    refine lv_if_ne (tgt := 21) hx hb dX5_alter_16 (by decide) (fun c5 => ?_) (fun c5 => ?_)
    · have h := zif c5 h
      refine lv_aload_n hx hb dX5_alter_21 rfl (lv_at hl 0 rfl) ?_
      refine va_get (D := G) (ci := 5) (v := .ref a_L) (C := RX5) (T := TX5) (N := 12) hx hb hts iw_X5_alter_X5 hown hK hP 0 rfl rfl 0 (by decide) (hts (.fieldLink RX5 10 "SpireLean" "live" "LSpireLean$Town;") (List.mem_of_getElem? (i := 1) rfl)) (fun _ h9 => h9) rfl dX5_alter_22 ?_
      refine lv_iload_n hx hb dX5_alter_25 rfl (lv_at hl 1 rfl) ?_
      refine lv_iload_n hx hb dX5_alter_26 rfl (lv_at hl 2 rfl) ?_
      obtain ⟨o3, hv, h⟩ := zb h
      refine z_goi (w2 := [(a_x, .inr (5, [.ref a_L, .ref a_T, .ref a_x_images, .ref a_x_kept, .ref a_P, .ref a_N, .ref a_D, .ref a_x_sheets, .ref a_x_points, .ref a_x_tally, .int x_textFault, .int x_readFault])), (a_L, .inr (4, [.ref a_L_traits, .int L_draws, .int L_foot, .int L_point, .int L_stiff, .int L_bears, .int L_year])), (a_L_traits, .inl (k 0, 20, .inl L_traits))]) [1, 2] (va_runVN (As := [.int u1, .int u2]) (rest := []) ⟨hx, hb, hml, hown, hts⟩ (c_X4_trait l G k tL tM sK sV a_L a_L_traits H.size L_draws L_foot L_point L_stiff L_bears L_year L_traits u1 u2 o3 hv) ⟨va_cnB 2 hts gX5_alter_X4_trait_n133 rfl rfl rfl (hE.1 (.methodLinkNest RX5 133 yX4_trait "SpireLean") (List.mem_of_getElem? (i := 42) rfl)) (hts (.initialized RX4) (List.mem_of_getElem? (i := 3) rfl)) (by decide +kernel) ⟨Nat.le_of_ble_eq_true rfl, Nat.le_of_ble_eq_true rfl⟩, (hts (.instanceMethod yX4_trait) (List.mem_of_getElem? (i := 16) rfl)), (hts (.selects RX4 yX4_trait yX4_trait) (List.mem_of_getElem? (i := 17) rfl))⟩ (z_preV (wc := [(a_L, .inr (4, [.ref a_L_traits, .int L_draws, .int L_foot, .int L_point, .int L_stiff, .int L_bears, .int L_year])), (a_L_traits, .inl (k 0, 20, .inl L_traits))]) [1, 2] 1 4 hK hE hA hP hD hS (by decide) rfl rfl rfl) rfl rfl hl.1 rfl (lv_room (Nat.le_of_ble_eq_true rfl)) dX5_alter_27 ⟨Nat.le_refl _, Nat.le_refl _⟩) hA hP hD hS rfl rfl rfl rfl (fun H locs hP hD hS => ?_)
      refine lv_istore (lv' := [(4, .int o3), (0, .ref a_x), (1, .int u1), (2, .int u2), (3, .int u3)]) hx hb dX5_alter_30 hl (by decide) rfl (fun ls hl => ?_)
      refine lv_aload_n hx hb dX5_alter_32 rfl (lv_at hl 1 rfl) ?_
      refine va_get (D := G) (ci := 5) (v := .ref a_L) (C := RX5) (T := TX5) (N := 12) hx hb hts iw_X5_alter_X5 hown hK hP 0 rfl rfl 0 (by decide) (hts (.fieldLink RX5 10 "SpireLean" "live" "LSpireLean$Town;") (List.mem_of_getElem? (i := 1) rfl)) (fun _ h9 => h9) rfl dX5_alter_33 ?_
      refine lv_iload_n hx hb dX5_alter_36 rfl (lv_at hl 2 rfl) ?_
      refine lv_iload_n hx hb dX5_alter_37 rfl (lv_at hl 3 rfl) ?_
      refine lv_iload_n hx hb dX5_alter_38 rfl (lv_at hl 4 rfl) ?_
      obtain ⟨o4, hv, h⟩ := zb h
      refine z_gov (w2 := [(a_x, .inr (5, [.ref a_L, .ref a_T, .ref a_x_images, .ref a_x_kept, .ref a_P, .ref a_N, .ref a_D, .ref a_x_sheets, .ref a_x_points, .ref a_x_tally, .int x_textFault, .int x_readFault])), (a_L, .inr (4, [.ref a_L_traits, .int L_draws, .int L_foot, .int L_point, .int L_stiff, .int L_bears, .int L_year])), (a_L_traits, .inl (k 0, 20, .inl o4))]) [1, 2] (va_runVN (As := [.int u1, .int u2, .int u3]) (rest := []) ⟨hx, hb, hml, hown, hts⟩ (c_X4_setTrait l G k tL tM sK sV a_L a_L_traits H.size L_draws L_foot L_point L_stiff L_bears L_year L_traits u1 u2 u3 o4 hv) ⟨va_cnB 3 hts gX5_alter_X4_setTrait_n150 rfl rfl rfl (hE.1 (.methodLinkNest RX5 150 yX4_setTrait "SpireLean") (List.mem_of_getElem? (i := 46) rfl)) (hts (.initialized RX4) (List.mem_of_getElem? (i := 3) rfl)) (by decide +kernel) ⟨Nat.le_of_ble_eq_true rfl, Nat.le_of_ble_eq_true rfl⟩, (hts (.instanceMethod yX4_setTrait) (List.mem_of_getElem? (i := 20) rfl)), (hts (.selects RX4 yX4_setTrait yX4_setTrait) (List.mem_of_getElem? (i := 21) rfl))⟩ (z_preV (wc := [(a_L, .inr (4, [.ref a_L_traits, .int L_draws, .int L_foot, .int L_point, .int L_stiff, .int L_bears, .int L_year])), (a_L_traits, .inl (k 0, 20, .inl L_traits))]) [1, 2] 1 4 hK hE hA hP hD hS (by decide) rfl rfl rfl) rfl rfl hl.1 rfl (lv_room (Nat.le_of_ble_eq_true rfl)) dX5_alter_39 ⟨Nat.le_refl _, Nat.le_refl _⟩) hA hP hD hS rfl rfl rfl rfl (fun H locs hP hD hS => ?_)
      refine lv_iload hx hb dX5_alter_42 (lv_at hl 0 rfl) ?_
      have hr := (zs h)
      subst hr
      exact hret H locs ls 44 hP hS dX5_alter_44
    · have h := zit c5 h
      refine lv_iconst (v := (-1)) hx hb dX5_alter_19 (by decide) ?_
      have hr := (zs h)
      subst hr
      exact hret H locs ls 20 hP hS dX5_alter_20
theorem iw_X5_stiff_X4 : ∀ w ∈ wsX40, w ∈ wsX5_stiff := fun _ h => List.mem_cons_of_mem _ (List.mem_append_right _ h)
theorem iw_X5_stiff_X5 : ∀ w ∈ wsX50, w ∈ wsX5_stiff := fun _ h => List.mem_cons_of_mem _ (List.mem_append_left _ (List.mem_append_right _ h))
set_option maxHeartbeats 4000000 in
set_option maxRecDepth 100000 in
theorem c_X5_stiff (l : Launch) (G : va_G) (k : Nat → ClassId) (tL tM : Nat) (sK sV : Nat → Nat) (a_x : Nat) (a_L : Nat) (a_T : Nat) (a_x_images : Nat) (a_x_kept : Nat) (a_P : Nat) (a_N : Nat) (a_D : Nat) (a_x_sheets : Nat) (a_x_points : Nat) (a_x_tally : Nat) (a_L_traits : Nat) (sz : Nat) (x_textFault : Int32) (x_readFault : Int32) (L_draws : Int32) (L_foot : Int32) (L_point : Int32) (L_stiff : Int32) (L_bears : Int32) (L_year : Int32) (u1 : Int32) (out : Int32 × Int32) (h : p_X5_stiff u1 L_stiff = some out) : zMi l yX5_stiff wsX5_stiff 1 22 G k tL tM sK sV [.ref a_x, .int u1] [(a_x, .inr (5, [.ref a_L, .ref a_T, .ref a_x_images, .ref a_x_kept, .ref a_P, .ref a_N, .ref a_D, .ref a_x_sheets, .ref a_x_points, .ref a_x_tally, .int x_textFault, .int x_readFault])), (a_L, .inr (4, [.ref a_L_traits, .int L_draws, .int L_foot, .int L_point, .int L_stiff, .int L_bears, .int L_year]))] [(a_x, .inr (5, [.ref a_L, .ref a_T, .ref a_x_images, .ref a_x_kept, .ref a_P, .ref a_N, .ref a_D, .ref a_x_sheets, .ref a_x_points, .ref a_x_tally, .int x_textFault, .int x_readFault])), (a_L, .inr (4, [.ref a_L_traits, .int L_draws, .int L_foot, .int L_point, .int out.2, .int L_bears, .int L_year]))] out.1 sz := by
  refine z_meti (cc := cX5_stiff) (maxL := 3) (by decide) rfl (Nat.le_of_ble_eq_true rfl) ?_
  intro p e s m below meth c A Q H locs ls hx hb hml hts hown hA hK hE hret hP hD hS hl
  have hown : s.vm.findClass RX5 = some m.cls := hown
  have hl : lv_has ls 3 [(0, .ref a_x), (1, .int u1)] := hl
  unfold p_X5_stiff at h
  refine lv_iload_n hx hb dX5_stiff_0 rfl (lv_at hl 1 rfl) ?_
  refine lv_iconst (v := 0) hx hb dX5_stiff_1 (by decide) ?_
  refine lv_bipush (v := 20) hx hb dX5_stiff_2 (by decide) ?_
  obtain ⟨o1, hv, h⟩ := zb h
  refine z_goi (w2 := [(a_x, .inr (5, [.ref a_L, .ref a_T, .ref a_x_images, .ref a_x_kept, .ref a_P, .ref a_N, .ref a_D, .ref a_x_sheets, .ref a_x_points, .ref a_x_tally, .int x_textFault, .int x_readFault])), (a_L, .inr (4, [.ref a_L_traits, .int L_draws, .int L_foot, .int L_point, .int L_stiff, .int L_bears, .int L_year]))]) [] (va_runS (As := [.int u1, .int (0 : Int32), .int (20 : Int32)]) (rest := []) ⟨hx, hb, hml, hown, hts⟩ (c_X5_within l G k tL tM sK sV H.size u1 (0 : Int32) (20 : Int32) o1 hv) (va_cwS 3 hts gX5_stiff_X5_within rfl rfl rfl (by decide +kernel) ⟨Nat.le_of_ble_eq_true rfl, Nat.le_of_ble_eq_true rfl⟩) (z_preS (wc := []) [] hK hE hA hP hD hS (by decide) rfl) rfl rfl hl.1 rfl (lv_room (Nat.le_of_ble_eq_true rfl)) dX5_stiff_4 ⟨Nat.le_refl _, Nat.le_refl _⟩) hA hP hD hS rfl rfl rfl rfl (fun H locs hP hD hS => ?_)
  refine lv_if_ne (tgt := 12) hx hb dX5_stiff_7 (by decide) (fun c2 => ?_) (fun c2 => ?_)
  · have h := zif c2 h
    refine lv_aload_n hx hb dX5_stiff_12 rfl (lv_at hl 0 rfl) ?_
    refine va_get (D := G) (ci := 5) (v := .ref a_L) (C := RX5) (T := TX5) (N := 12) hx hb hts iw_X5_stiff_X5 hown hK hP 0 rfl rfl 0 (by decide) (hts (.fieldLink RX5 10 "SpireLean" "live" "LSpireLean$Town;") (List.mem_of_getElem? (i := 1) rfl)) (fun _ h9 => h9) rfl dX5_stiff_13 ?_
    refine va_getN (D := G) (ci := 4) (v := .int L_stiff) (C := RX4) (T := TX4) (N := 7) hx hb hts iw_X5_stiff_X4 hown hK hP 1 rfl rfl 4 (by decide) (va_Nw.use rfl (hE.1 (.fieldLinkNest RX5 123 "SpireLean$Town" "stiff" "I" "SpireLean") (List.mem_of_getElem? (i := 8) rfl))) (fun _ h9 => h9) rfl dX5_stiff_16 ?_
    refine lv_istore_n (lv' := [(2, .int L_stiff), (0, .ref a_x), (1, .int u1)]) hx hb dX5_stiff_19 rfl hl (by decide) rfl (fun ls hl => ?_)
    refine lv_aload_n hx hb dX5_stiff_20 rfl (lv_at hl 1 rfl) ?_
    refine va_get (D := G) (ci := 5) (v := .ref a_L) (C := RX5) (T := TX5) (N := 12) hx hb hts iw_X5_stiff_X5 hown hK hP 0 rfl rfl 0 (by decide) (hts (.fieldLink RX5 10 "SpireLean" "live" "LSpireLean$Town;") (List.mem_of_getElem? (i := 1) rfl)) (fun _ h9 => h9) rfl dX5_stiff_21 ?_
    refine lv_iload_n hx hb dX5_stiff_24 rfl (lv_at hl 2 rfl) ?_
    refine va_putN (D := G) (ci := 4) (v := .int u1) (ty := .int) (C := RX4) (T := TX4) (N := 7) hx hb hts iw_X5_stiff_X4 tyX4 tyX4_ok nmX4 hown hK hP hD hS 1 rfl rfl 4 (by decide) (va_Nw.use rfl (hE.1 (.fieldLinkNest RX5 123 "SpireLean$Town" "stiff" "I" "SpireLean") (List.mem_of_getElem? (i := 8) rfl))) (fun _ h9 => h9) rfl (tyX4_ok 4 (by decide)) rfl rfl (Nat.le_of_ble_eq_true rfl) dX5_stiff_25 (fun H locs hP hD hS => ?_)
    have hP : va_P G vwCl [(a_x, .inr (5, [.ref a_L, .ref a_T, .ref a_x_images, .ref a_x_kept, .ref a_P, .ref a_N, .ref a_D, .ref a_x_sheets, .ref a_x_points, .ref a_x_tally, .int x_textFault, .int x_readFault])), (a_L, .inr (4, [.ref a_L_traits, .int L_draws, .int L_foot, .int L_point, .int u1, .int L_bears, .int L_year]))] H := hP
    have hD : va_D A [(a_x, .inr (5, [.ref a_L, .ref a_T, .ref a_x_images, .ref a_x_kept, .ref a_P, .ref a_N, .ref a_D, .ref a_x_sheets, .ref a_x_points, .ref a_x_tally, .int x_textFault, .int x_readFault])), (a_L, .inr (4, [.ref a_L_traits, .int L_draws, .int L_foot, .int L_point, .int u1, .int L_bears, .int L_year]))] := hD
    refine lv_iload_n hx hb dX5_stiff_28 rfl (lv_at hl 0 rfl) ?_
    have hr := (zs h)
    subst hr
    exact hret H locs ls 29 hP hS dX5_stiff_29
  · have h := zit c2 h
    refine lv_iconst (v := (-1)) hx hb dX5_stiff_10 (by decide) ?_
    have hr := (zs h)
    subst hr
    exact hret H locs ls 11 hP hS dX5_stiff_11
theorem iw_X5_bears_X4 : ∀ w ∈ wsX40, w ∈ wsX5_bears := fun _ h => List.mem_cons_of_mem _ (List.mem_append_right _ h)
theorem iw_X5_bears_X5 : ∀ w ∈ wsX50, w ∈ wsX5_bears := fun _ h => List.mem_cons_of_mem _ (List.mem_append_left _ (List.mem_append_right _ h))
set_option maxHeartbeats 4000000 in
set_option maxRecDepth 100000 in
theorem c_X5_bears (l : Launch) (G : va_G) (k : Nat → ClassId) (tL tM : Nat) (sK sV : Nat → Nat) (a_x : Nat) (a_L : Nat) (a_T : Nat) (a_x_images : Nat) (a_x_kept : Nat) (a_P : Nat) (a_N : Nat) (a_D : Nat) (a_x_sheets : Nat) (a_x_points : Nat) (a_x_tally : Nat) (a_L_traits : Nat) (sz : Nat) (x_textFault : Int32) (x_readFault : Int32) (L_draws : Int32) (L_foot : Int32) (L_point : Int32) (L_stiff : Int32) (L_bears : Int32) (L_year : Int32) (u1 : Int32) (out : Int32 × Int32) (h : p_X5_bears u1 L_bears = some out) : zMi l yX5_bears wsX5_bears 1 22 G k tL tM sK sV [.ref a_x, .int u1] [(a_x, .inr (5, [.ref a_L, .ref a_T, .ref a_x_images, .ref a_x_kept, .ref a_P, .ref a_N, .ref a_D, .ref a_x_sheets, .ref a_x_points, .ref a_x_tally, .int x_textFault, .int x_readFault])), (a_L, .inr (4, [.ref a_L_traits, .int L_draws, .int L_foot, .int L_point, .int L_stiff, .int L_bears, .int L_year]))] [(a_x, .inr (5, [.ref a_L, .ref a_T, .ref a_x_images, .ref a_x_kept, .ref a_P, .ref a_N, .ref a_D, .ref a_x_sheets, .ref a_x_points, .ref a_x_tally, .int x_textFault, .int x_readFault])), (a_L, .inr (4, [.ref a_L_traits, .int L_draws, .int L_foot, .int L_point, .int L_stiff, .int out.2, .int L_year]))] out.1 sz := by
  refine z_meti (cc := cX5_bears) (maxL := 3) (by decide) rfl (Nat.le_of_ble_eq_true rfl) ?_
  intro p e s m below meth c A Q H locs ls hx hb hml hts hown hA hK hE hret hP hD hS hl
  have hown : s.vm.findClass RX5 = some m.cls := hown
  have hl : lv_has ls 3 [(0, .ref a_x), (1, .int u1)] := hl
  unfold p_X5_bears at h
  refine lv_iload_n hx hb dX5_bears_0 rfl (lv_at hl 1 rfl) ?_
  refine lv_iconst (v := 0) hx hb dX5_bears_1 (by decide) ?_
  refine lv_bipush (v := 18) hx hb dX5_bears_2 (by decide) ?_
  obtain ⟨o1, hv, h⟩ := zb h
  refine z_goi (w2 := [(a_x, .inr (5, [.ref a_L, .ref a_T, .ref a_x_images, .ref a_x_kept, .ref a_P, .ref a_N, .ref a_D, .ref a_x_sheets, .ref a_x_points, .ref a_x_tally, .int x_textFault, .int x_readFault])), (a_L, .inr (4, [.ref a_L_traits, .int L_draws, .int L_foot, .int L_point, .int L_stiff, .int L_bears, .int L_year]))]) [] (va_runS (As := [.int u1, .int (0 : Int32), .int (18 : Int32)]) (rest := []) ⟨hx, hb, hml, hown, hts⟩ (c_X5_within l G k tL tM sK sV H.size u1 (0 : Int32) (18 : Int32) o1 hv) (va_cwS 3 hts gX5_bears_X5_within rfl rfl rfl (by decide +kernel) ⟨Nat.le_of_ble_eq_true rfl, Nat.le_of_ble_eq_true rfl⟩) (z_preS (wc := []) [] hK hE hA hP hD hS (by decide) rfl) rfl rfl hl.1 rfl (lv_room (Nat.le_of_ble_eq_true rfl)) dX5_bears_4 ⟨Nat.le_refl _, Nat.le_refl _⟩) hA hP hD hS rfl rfl rfl rfl (fun H locs hP hD hS => ?_)
  refine lv_if_ne (tgt := 12) hx hb dX5_bears_7 (by decide) (fun c2 => ?_) (fun c2 => ?_)
  · have h := zif c2 h
    refine lv_aload_n hx hb dX5_bears_12 rfl (lv_at hl 0 rfl) ?_
    refine va_get (D := G) (ci := 5) (v := .ref a_L) (C := RX5) (T := TX5) (N := 12) hx hb hts iw_X5_bears_X5 hown hK hP 0 rfl rfl 0 (by decide) (hts (.fieldLink RX5 10 "SpireLean" "live" "LSpireLean$Town;") (List.mem_of_getElem? (i := 1) rfl)) (fun _ h9 => h9) rfl dX5_bears_13 ?_
    refine va_getN (D := G) (ci := 4) (v := .int L_bears) (C := RX4) (T := TX4) (N := 7) hx hb hts iw_X5_bears_X4 hown hK hP 1 rfl rfl 5 (by decide) (va_Nw.use rfl (hE.1 (.fieldLinkNest RX5 126 "SpireLean$Town" "bears" "I" "SpireLean") (List.mem_of_getElem? (i := 10) rfl))) (fun _ h9 => h9) rfl dX5_bears_16 ?_
    refine lv_istore_n (lv' := [(2, .int L_bears), (0, .ref a_x), (1, .int u1)]) hx hb dX5_bears_19 rfl hl (by decide) rfl (fun ls hl => ?_)
    refine lv_aload_n hx hb dX5_bears_20 rfl (lv_at hl 1 rfl) ?_
    refine va_get (D := G) (ci := 5) (v := .ref a_L) (C := RX5) (T := TX5) (N := 12) hx hb hts iw_X5_bears_X5 hown hK hP 0 rfl rfl 0 (by decide) (hts (.fieldLink RX5 10 "SpireLean" "live" "LSpireLean$Town;") (List.mem_of_getElem? (i := 1) rfl)) (fun _ h9 => h9) rfl dX5_bears_21 ?_
    refine lv_iload_n hx hb dX5_bears_24 rfl (lv_at hl 2 rfl) ?_
    refine va_putN (D := G) (ci := 4) (v := .int u1) (ty := .int) (C := RX4) (T := TX4) (N := 7) hx hb hts iw_X5_bears_X4 tyX4 tyX4_ok nmX4 hown hK hP hD hS 1 rfl rfl 5 (by decide) (va_Nw.use rfl (hE.1 (.fieldLinkNest RX5 126 "SpireLean$Town" "bears" "I" "SpireLean") (List.mem_of_getElem? (i := 10) rfl))) (fun _ h9 => h9) rfl (tyX4_ok 5 (by decide)) rfl rfl (Nat.le_of_ble_eq_true rfl) dX5_bears_25 (fun H locs hP hD hS => ?_)
    have hP : va_P G vwCl [(a_x, .inr (5, [.ref a_L, .ref a_T, .ref a_x_images, .ref a_x_kept, .ref a_P, .ref a_N, .ref a_D, .ref a_x_sheets, .ref a_x_points, .ref a_x_tally, .int x_textFault, .int x_readFault])), (a_L, .inr (4, [.ref a_L_traits, .int L_draws, .int L_foot, .int L_point, .int L_stiff, .int u1, .int L_year]))] H := hP
    have hD : va_D A [(a_x, .inr (5, [.ref a_L, .ref a_T, .ref a_x_images, .ref a_x_kept, .ref a_P, .ref a_N, .ref a_D, .ref a_x_sheets, .ref a_x_points, .ref a_x_tally, .int x_textFault, .int x_readFault])), (a_L, .inr (4, [.ref a_L_traits, .int L_draws, .int L_foot, .int L_point, .int L_stiff, .int u1, .int L_year]))] := hD
    refine lv_iload_n hx hb dX5_bears_28 rfl (lv_at hl 0 rfl) ?_
    have hr := (zs h)
    subst hr
    exact hret H locs ls 29 hP hS dX5_bears_29
  · have h := zit c2 h
    refine lv_iconst (v := (-1)) hx hb dX5_bears_10 (by decide) ?_
    have hr := (zs h)
    subst hr
    exact hret H locs ls 11 hP hS dX5_bears_11
set_option maxHeartbeats 4000000 in
set_option maxRecDepth 100000 in
theorem c_X5_isCell (l : Launch) (G : va_G) (k : Nat → ClassId) (tL tM : Nat) (sK sV : Nat → Nat) (sz : Nat) (u1 : Int32) (out : Int32) (h : p_X5_isCell u1 = some out) : zMi l yX5_isCell wsX5_isCell 1 22 G k tL tM sK sV [.int u1] [] [] out sz := by
  refine z_metz (cc := cX5_isCell) (maxL := 1) (by decide) rfl (Nat.le_of_ble_eq_true rfl) ?_
  intro p e s m below meth c A Q H locs ls hx hb hml hts hown hA hK hE hret hP hD hS hl
  have hown : s.vm.findClass RX5 = some m.cls := hown
  have hl : lv_has ls 1 [(0, .int u1)] := hl
  unfold p_X5_isCell at h
  refine lv_iload_n hx hb dX5_isCell_0 rfl (lv_at hl 0 rfl) ?_
  refine lv_iconst (v := 0) hx hb dX5_isCell_1 (by decide) ?_
  refine lv_bipush (v := 99) hx hb dX5_isCell_2 (by decide) ?_
  obtain ⟨o1, hv, h⟩ := zb h
  refine z_goi (w2 := []) [] (va_runS (As := [.int u1, .int (0 : Int32), .int (99 : Int32)]) (rest := []) ⟨hx, hb, hml, hown, hts⟩ (c_X5_within l G k tL tM sK sV H.size u1 (0 : Int32) (99 : Int32) o1 hv) (va_cwS 3 hts gX5_isCell_X5_within rfl rfl rfl (by decide +kernel) ⟨Nat.le_of_ble_eq_true rfl, Nat.le_of_ble_eq_true rfl⟩) (z_preS (wc := []) [] hK hE hA hP hD hS (by decide) rfl) rfl rfl hl.1 rfl (lv_room (Nat.le_of_ble_eq_true rfl)) dX5_isCell_4 ⟨Nat.le_refl _, Nat.le_refl _⟩) hA hP hD hS rfl rfl rfl rfl (fun H locs hP hD hS => ?_)
  obtain ⟨v2, hv, h⟩ := zb h
  obtain ⟨hbit, hvv⟩ := z_bitS hv
  rw [hvv]
  have hr := (zs h)
  subst hr
  exact hret H locs ls 7 hbit hP hS dX5_isCell_7
theorem iw_X5_bend_X4 : ∀ w ∈ wsX40, w ∈ wsX5_bend := fun _ h => List.mem_cons_of_mem _ (List.mem_append_right _ h)
theorem iw_X5_bend_X5 : ∀ w ∈ wsX50, w ∈ wsX5_bend := fun _ h => List.mem_cons_of_mem _ (List.mem_append_left _ (List.mem_append_right _ h))
set_option maxHeartbeats 4000000 in
set_option maxRecDepth 100000 in
theorem c_X5_bend (l : Launch) (G : va_G) (k : Nat → ClassId) (tL tM : Nat) (sK sV : Nat → Nat) (a_x : Nat) (a_L : Nat) (a_T : Nat) (a_x_images : Nat) (a_x_kept : Nat) (a_P : Nat) (a_N : Nat) (a_D : Nat) (a_x_sheets : Nat) (a_x_points : Nat) (a_x_tally : Nat) (a_L_traits : Nat) (sz : Nat) (x_textFault : Int32) (x_readFault : Int32) (L_draws : Int32) (L_foot : Int32) (L_point : Int32) (L_stiff : Int32) (L_bears : Int32) (L_year : Int32) (u1 : Int32) (out : Int32 × Int32) (h : p_X5_bend u1 L_point = some out) : zMi l yX5_bend wsX5_bend 2 42 G k tL tM sK sV [.ref a_x, .int u1] [(a_x, .inr (5, [.ref a_L, .ref a_T, .ref a_x_images, .ref a_x_kept, .ref a_P, .ref a_N, .ref a_D, .ref a_x_sheets, .ref a_x_points, .ref a_x_tally, .int x_textFault, .int x_readFault])), (a_L, .inr (4, [.ref a_L_traits, .int L_draws, .int L_foot, .int L_point, .int L_stiff, .int L_bears, .int L_year]))] [(a_x, .inr (5, [.ref a_L, .ref a_T, .ref a_x_images, .ref a_x_kept, .ref a_P, .ref a_N, .ref a_D, .ref a_x_sheets, .ref a_x_points, .ref a_x_tally, .int x_textFault, .int x_readFault])), (a_L, .inr (4, [.ref a_L_traits, .int L_draws, .int L_foot, .int out.2, .int L_stiff, .int L_bears, .int L_year]))] out.1 sz := by
  refine z_meti (cc := cX5_bend) (maxL := 3) (by decide) rfl (Nat.le_of_ble_eq_true rfl) ?_
  intro p e s m below meth c A Q H locs ls hx hb hml hts hown hA hK hE hret hP hD hS hl
  have hown : s.vm.findClass RX5 = some m.cls := hown
  have hl : lv_has ls 3 [(0, .ref a_x), (1, .int u1)] := hl
  unfold p_X5_bend at h
  refine lv_iload_n hx hb dX5_bend_0 rfl (lv_at hl 1 rfl) ?_
  obtain ⟨o1, hv, h⟩ := zb h
  refine z_goi (w2 := [(a_x, .inr (5, [.ref a_L, .ref a_T, .ref a_x_images, .ref a_x_kept, .ref a_P, .ref a_N, .ref a_D, .ref a_x_sheets, .ref a_x_points, .ref a_x_tally, .int x_textFault, .int x_readFault])), (a_L, .inr (4, [.ref a_L_traits, .int L_draws, .int L_foot, .int L_point, .int L_stiff, .int L_bears, .int L_year]))]) [] (va_runS (As := [.int u1]) (rest := []) ⟨hx, hb, hml, hown, hts⟩ (c_X5_isCell l G k tL tM sK sV H.size u1 o1 hv) (va_cwS 1 hts gX5_bend_X5_isCell rfl rfl rfl (by decide +kernel) ⟨Nat.le_of_ble_eq_true rfl, Nat.le_of_ble_eq_true rfl⟩) (z_preS (wc := []) [] hK hE hA hP hD hS (by decide) rfl) rfl rfl hl.1 rfl (lv_room (Nat.le_of_ble_eq_true rfl)) dX5_bend_1 ⟨Nat.le_refl _, Nat.le_refl _⟩) hA hP hD hS rfl rfl rfl rfl (fun H locs hP hD hS => ?_)
  refine lv_if_ne (tgt := 9) hx hb dX5_bend_4 (by decide) (fun c2 => ?_) (fun c2 => ?_)
  · have h := zif c2 h
    refine lv_aload_n hx hb dX5_bend_9 rfl (lv_at hl 0 rfl) ?_
    refine va_get (D := G) (ci := 5) (v := .ref a_L) (C := RX5) (T := TX5) (N := 12) hx hb hts iw_X5_bend_X5 hown hK hP 0 rfl rfl 0 (by decide) (hts (.fieldLink RX5 10 "SpireLean" "live" "LSpireLean$Town;") (List.mem_of_getElem? (i := 1) rfl)) (fun _ h9 => h9) rfl dX5_bend_10 ?_
    refine va_getN (D := G) (ci := 4) (v := .int L_point) (C := RX4) (T := TX4) (N := 7) hx hb hts iw_X5_bend_X4 hown hK hP 1 rfl rfl 3 (by decide) (va_Nw.use rfl (hE.1 (.fieldLinkNest RX5 106 "SpireLean$Town" "point" "I" "SpireLean") (List.mem_of_getElem? (i := 6) rfl))) (fun _ h9 => h9) rfl dX5_bend_13 ?_
    refine lv_istore_n (lv' := [(2, .int L_point), (0, .ref a_x), (1, .int u1)]) hx hb dX5_bend_16 rfl hl (by decide) rfl (fun ls hl => ?_)
    refine lv_aload_n hx hb dX5_bend_17 rfl (lv_at hl 1 rfl) ?_
    refine va_get (D := G) (ci := 5) (v := .ref a_L) (C := RX5) (T := TX5) (N := 12) hx hb hts iw_X5_bend_X5 hown hK hP 0 rfl rfl 0 (by decide) (hts (.fieldLink RX5 10 "SpireLean" "live" "LSpireLean$Town;") (List.mem_of_getElem? (i := 1) rfl)) (fun _ h9 => h9) rfl dX5_bend_18 ?_
    refine lv_iload_n hx hb dX5_bend_21 rfl (lv_at hl 2 rfl) ?_
    refine va_putN (D := G) (ci := 4) (v := .int u1) (ty := .int) (C := RX4) (T := TX4) (N := 7) hx hb hts iw_X5_bend_X4 tyX4 tyX4_ok nmX4 hown hK hP hD hS 1 rfl rfl 3 (by decide) (va_Nw.use rfl (hE.1 (.fieldLinkNest RX5 106 "SpireLean$Town" "point" "I" "SpireLean") (List.mem_of_getElem? (i := 6) rfl))) (fun _ h9 => h9) rfl (tyX4_ok 3 (by decide)) rfl rfl (Nat.le_of_ble_eq_true rfl) dX5_bend_22 (fun H locs hP hD hS => ?_)
    have hP : va_P G vwCl [(a_x, .inr (5, [.ref a_L, .ref a_T, .ref a_x_images, .ref a_x_kept, .ref a_P, .ref a_N, .ref a_D, .ref a_x_sheets, .ref a_x_points, .ref a_x_tally, .int x_textFault, .int x_readFault])), (a_L, .inr (4, [.ref a_L_traits, .int L_draws, .int L_foot, .int u1, .int L_stiff, .int L_bears, .int L_year]))] H := hP
    have hD : va_D A [(a_x, .inr (5, [.ref a_L, .ref a_T, .ref a_x_images, .ref a_x_kept, .ref a_P, .ref a_N, .ref a_D, .ref a_x_sheets, .ref a_x_points, .ref a_x_tally, .int x_textFault, .int x_readFault])), (a_L, .inr (4, [.ref a_L_traits, .int L_draws, .int L_foot, .int u1, .int L_stiff, .int L_bears, .int L_year]))] := hD
    refine lv_iload_n hx hb dX5_bend_25 rfl (lv_at hl 0 rfl) ?_
    have hr := (zs h)
    subst hr
    exact hret H locs ls 26 hP hS dX5_bend_26
  · have h := zit c2 h
    refine lv_iconst (v := (-1)) hx hb dX5_bend_7 (by decide) ?_
    have hr := (zs h)
    subst hr
    exact hret H locs ls 8 hP hS dX5_bend_8
theorem iw_X5_put_X4 : ∀ w ∈ wsX40, w ∈ wsX5_put := fun _ h => List.mem_cons_of_mem _ (List.mem_append_right _ h)
theorem iw_X5_put_X5 : ∀ w ∈ wsX50, w ∈ wsX5_put := fun _ h => List.mem_cons_of_mem _ (List.mem_append_left _ (List.mem_append_right _ h))
set_option maxHeartbeats 4000000 in
set_option maxRecDepth 100000 in
theorem c_X5_put (l : Launch) (G : va_G) (k : Nat → ClassId) (tL tM : Nat) (sK sV : Nat → Nat) (a_x : Nat) (a_L : Nat) (a_T : Nat) (a_x_images : Nat) (a_x_kept : Nat) (a_P : Nat) (a_N : Nat) (a_D : Nat) (a_x_sheets : Nat) (a_x_points : Nat) (a_x_tally : Nat) (a_L_traits : Nat) (sz : Nat) (x_textFault : Int32) (x_readFault : Int32) (L_draws : Int32) (L_foot : Int32) (L_point : Int32) (L_stiff : Int32) (L_bears : Int32) (L_year : Int32) (L_traits : Nat → Int32) (u1 : Int32) (u2 : Int32) (u3 : Int32) (out : Int32 × Int32 × (Nat → Int32)) (h : p_X5_put u1 u2 u3 L_draws L_traits = some out) : zMi l yX5_put wsX5_put 2 48 G k tL tM sK sV [.ref a_x, .int u1, .int u2, .int u3] [(a_x, .inr (5, [.ref a_L, .ref a_T, .ref a_x_images, .ref a_x_kept, .ref a_P, .ref a_N, .ref a_D, .ref a_x_sheets, .ref a_x_points, .ref a_x_tally, .int x_textFault, .int x_readFault])), (a_L, .inr (4, [.ref a_L_traits, .int L_draws, .int L_foot, .int L_point, .int L_stiff, .int L_bears, .int L_year])), (a_L_traits, .inl (k 0, 20, .inl L_traits))] [(a_x, .inr (5, [.ref a_L, .ref a_T, .ref a_x_images, .ref a_x_kept, .ref a_P, .ref a_N, .ref a_D, .ref a_x_sheets, .ref a_x_points, .ref a_x_tally, .int x_textFault, .int x_readFault])), (a_L, .inr (4, [.ref a_L_traits, .int out.2.1, .int L_foot, .int L_point, .int L_stiff, .int L_bears, .int L_year])), (a_L_traits, .inl (k 0, 20, .inl out.2.2))] out.1 sz := by
  refine z_meti (cc := cX5_put) (maxL := 4) (by decide) rfl (Nat.le_of_ble_eq_true rfl) ?_
  intro p e s m below meth c A Q H locs ls hx hb hml hts hown hA hK hE hret hP hD hS hl
  have hown : s.vm.findClass RX5 = some m.cls := hown
  have hl : lv_has ls 4 [(0, .ref a_x), (1, .int u1), (2, .int u2), (3, .int u3)] := hl
  unfold p_X5_put at h
  refine lv_iconst (v := 0) hx hb dX5_put_0 (by decide) ?_
  refine lv_iload_n hx hb dX5_put_1 rfl (lv_at hl 1 rfl) ?_
  obtain ⟨o1, hv, h⟩ := zb h
  refine z_goi (w2 := [(a_x, .inr (5, [.ref a_L, .ref a_T, .ref a_x_images, .ref a_x_kept, .ref a_P, .ref a_N, .ref a_D, .ref a_x_sheets, .ref a_x_points, .ref a_x_tally, .int x_textFault, .int x_readFault])), (a_L, .inr (4, [.ref a_L_traits, .int L_draws, .int L_foot, .int L_point, .int L_stiff, .int L_bears, .int L_year])), (a_L_traits, .inl (k 0, 20, .inl L_traits))]) [] (va_runS (As := [.int (0 : Int32), .int u1]) (rest := []) ⟨hx, hb, hml, hown, hts⟩ (c_X5_fitsTrait l G k tL tM sK sV H.size (0 : Int32) u1 o1 hv) (va_cwS 2 hts gX5_put_X5_fitsTrait rfl rfl rfl (by decide +kernel) ⟨Nat.le_of_ble_eq_true rfl, Nat.le_of_ble_eq_true rfl⟩) (z_preS (wc := []) [] hK hE hA hP hD hS (by decide) rfl) rfl rfl hl.1 rfl (lv_room (Nat.le_of_ble_eq_true rfl)) dX5_put_2 ⟨Nat.le_refl _, Nat.le_refl _⟩) hA hP hD hS rfl rfl rfl rfl (fun H locs hP hD hS => ?_)
  refine lv_if_eq (tgt := 23) hx hb dX5_put_5 (by decide) (fun c9 => ?_) (fun c9 => ?_)
  · have h := zit c9 h
    refine lv_iconst (v := (-1)) hx hb dX5_put_23 (by decide) ?_
    have hr := (zs h)
    subst hr
    exact hret H locs ls 24 hP hS dX5_put_24
  · have h := zif c9 h
    refine lv_iconst (v := 1) hx hb dX5_put_8 (by decide) ?_
    refine lv_iload_n hx hb dX5_put_9 rfl (lv_at hl 2 rfl) ?_
    obtain ⟨o2, hv, h⟩ := zb h
    refine z_goi (w2 := [(a_x, .inr (5, [.ref a_L, .ref a_T, .ref a_x_images, .ref a_x_kept, .ref a_P, .ref a_N, .ref a_D, .ref a_x_sheets, .ref a_x_points, .ref a_x_tally, .int x_textFault, .int x_readFault])), (a_L, .inr (4, [.ref a_L_traits, .int L_draws, .int L_foot, .int L_point, .int L_stiff, .int L_bears, .int L_year])), (a_L_traits, .inl (k 0, 20, .inl L_traits))]) [] (va_runS (As := [.int (1 : Int32), .int u2]) (rest := []) ⟨hx, hb, hml, hown, hts⟩ (c_X5_fitsTrait l G k tL tM sK sV H.size (1 : Int32) u2 o2 hv) (va_cwS 2 hts gX5_put_X5_fitsTrait rfl rfl rfl (by decide +kernel) ⟨Nat.le_of_ble_eq_true rfl, Nat.le_of_ble_eq_true rfl⟩) (z_preS (wc := []) [] hK hE hA hP hD hS (by decide) rfl) rfl rfl hl.1 rfl (lv_room (Nat.le_of_ble_eq_true rfl)) dX5_put_10 ⟨Nat.le_refl _, Nat.le_refl _⟩) hA hP hD hS rfl rfl rfl rfl (fun H locs hP hD hS => ?_)
    refine lv_if_eq (tgt := 23) hx hb dX5_put_13 (by decide) (fun c8 => ?_) (fun c8 => ?_)
    · have h := zit c8 h
      refine lv_iconst (v := (-1)) hx hb dX5_put_23 (by decide) ?_
      have hr := (zs h)
      subst hr
      exact hret H locs ls 24 hP hS dX5_put_24
    · have h := zif c8 h
      refine lv_iload_n hx hb dX5_put_16 rfl (lv_at hl 3 rfl) ?_
      obtain ⟨o3, hv, h⟩ := zb h
      refine z_goi (w2 := [(a_x, .inr (5, [.ref a_L, .ref a_T, .ref a_x_images, .ref a_x_kept, .ref a_P, .ref a_N, .ref a_D, .ref a_x_sheets, .ref a_x_points, .ref a_x_tally, .int x_textFault, .int x_readFault])), (a_L, .inr (4, [.ref a_L_traits, .int L_draws, .int L_foot, .int L_point, .int L_stiff, .int L_bears, .int L_year])), (a_L_traits, .inl (k 0, 20, .inl L_traits))]) [] (va_runS (As := [.int u3]) (rest := []) ⟨hx, hb, hml, hown, hts⟩ (c_X5_isCell l G k tL tM sK sV H.size u3 o3 hv) (va_cwS 1 hts gX5_put_X5_isCell rfl rfl rfl (by decide +kernel) ⟨Nat.le_of_ble_eq_true rfl, Nat.le_of_ble_eq_true rfl⟩) (z_preS (wc := []) [] hK hE hA hP hD hS (by decide) rfl) rfl rfl hl.1 rfl (lv_room (Nat.le_of_ble_eq_true rfl)) dX5_put_17 ⟨Nat.le_refl _, Nat.le_refl _⟩) hA hP hD hS rfl rfl rfl rfl (fun H locs hP hD hS => ?_)
      refine lv_if_ne (tgt := 25) hx hb dX5_put_20 (by decide) (fun c7 => ?_) (fun c7 => ?_)
      · have h := zif c7 h
        refine lv_aload_n hx hb dX5_put_25 rfl (lv_at hl 0 rfl) ?_
        refine va_get (D := G) (ci := 5) (v := .ref a_L) (C := RX5) (T := TX5) (N := 12) hx hb hts iw_X5_put_X5 hown hK hP 0 rfl rfl 0 (by decide) (hts (.fieldLink RX5 10 "SpireLean" "live" "LSpireLean$Town;") (List.mem_of_getElem? (i := 1) rfl)) (fun _ h9 => h9) rfl dX5_put_26 ?_
        obtain ⟨o4, hv, h⟩ := zb h
        refine z_goi (w2 := [(a_x, .inr (5, [.ref a_L, .ref a_T, .ref a_x_images, .ref a_x_kept, .ref a_P, .ref a_N, .ref a_D, .ref a_x_sheets, .ref a_x_points, .ref a_x_tally, .int x_textFault, .int x_readFault])), (a_L, .inr (4, [.ref a_L_traits, .int L_draws, .int L_foot, .int L_point, .int L_stiff, .int L_bears, .int L_year])), (a_L_traits, .inl (k 0, 20, .inl L_traits))]) [1] (va_runVN (As := []) (rest := []) ⟨hx, hb, hml, hown, hts⟩ (c_X4_isFull l G k tL tM sK sV a_L a_L_traits H.size L_draws L_foot L_point L_stiff L_bears L_year o4 hv) ⟨va_cnB 0 hts gX5_put_X4_isFull_n157 rfl rfl rfl (hE.1 (.methodLinkNest RX5 157 yX4_isFull "SpireLean") (List.mem_of_getElem? (i := 47) rfl)) (hts (.initialized RX4) (List.mem_of_getElem? (i := 15) rfl)) (by decide +kernel) ⟨Nat.le_of_ble_eq_true rfl, Nat.le_of_ble_eq_true rfl⟩, (hts (.instanceMethod yX4_isFull) (List.mem_of_getElem? (i := 14) rfl)), (hts (.selects RX4 yX4_isFull yX4_isFull) (List.mem_of_getElem? (i := 16) rfl))⟩ (z_preV (wc := [(a_L, .inr (4, [.ref a_L_traits, .int L_draws, .int L_foot, .int L_point, .int L_stiff, .int L_bears, .int L_year]))]) [1] 1 4 hK hE hA hP hD hS (by decide) rfl rfl rfl) rfl rfl hl.1 rfl (lv_room (Nat.le_of_ble_eq_true rfl)) dX5_put_29 ⟨Nat.le_refl _, Nat.le_refl _⟩) hA hP hD hS rfl rfl rfl rfl (fun H locs hP hD hS => ?_)
        refine lv_if_eq (tgt := 38) hx hb dX5_put_32 (by decide) (fun c6 => ?_) (fun c6 => ?_)
        · have h := zit c6 h
          refine lv_aload_n hx hb dX5_put_38 rfl (lv_at hl 0 rfl) ?_
          refine va_get (D := G) (ci := 5) (v := .ref a_L) (C := RX5) (T := TX5) (N := 12) hx hb hts iw_X5_put_X5 hown hK hP 0 rfl rfl 0 (by decide) (hts (.fieldLink RX5 10 "SpireLean" "live" "LSpireLean$Town;") (List.mem_of_getElem? (i := 1) rfl)) (fun _ h9 => h9) rfl dX5_put_39 ?_
          refine lv_iload_n hx hb dX5_put_42 rfl (lv_at hl 1 rfl) ?_
          refine lv_iload_n hx hb dX5_put_43 rfl (lv_at hl 2 rfl) ?_
          refine lv_iload_n hx hb dX5_put_44 rfl (lv_at hl 3 rfl) ?_
          refine lv_iconst (v := 0) hx hb dX5_put_45 (by decide) ?_
          obtain ⟨o5, hv, h⟩ := zb h
          refine z_gov (w2 := [(a_x, .inr (5, [.ref a_L, .ref a_T, .ref a_x_images, .ref a_x_kept, .ref a_P, .ref a_N, .ref a_D, .ref a_x_sheets, .ref a_x_points, .ref a_x_tally, .int x_textFault, .int x_readFault])), (a_L, .inr (4, [.ref a_L_traits, .int o5.1, .int L_foot, .int L_point, .int L_stiff, .int L_bears, .int L_year])), (a_L_traits, .inl (k 0, 20, .inl o5.2))]) [1, 2] (va_runVN (As := [.int u1, .int u2, .int u3, .int (0 : Int32)]) (rest := []) ⟨hx, hb, hml, hown, hts⟩ (c_X4_addDraw l G k tL tM sK sV a_L a_L_traits H.size L_draws L_foot L_point L_stiff L_bears L_year L_traits u1 u2 u3 (0 : Int32) o5 hv) ⟨va_cnB 4 hts gX5_put_X4_addDraw_n160 rfl rfl rfl (hE.1 (.methodLinkNest RX5 160 yX4_addDraw "SpireLean") (List.mem_of_getElem? (i := 48) rfl)) (hts (.initialized RX4) (List.mem_of_getElem? (i := 15) rfl)) (by decide +kernel) ⟨Nat.le_of_ble_eq_true rfl, Nat.le_of_ble_eq_true rfl⟩, (hts (.instanceMethod yX4_addDraw) (List.mem_of_getElem? (i := 19) rfl)), (hts (.selects RX4 yX4_addDraw yX4_addDraw) (List.mem_of_getElem? (i := 20) rfl))⟩ (z_preV (wc := [(a_L, .inr (4, [.ref a_L_traits, .int L_draws, .int L_foot, .int L_point, .int L_stiff, .int L_bears, .int L_year])), (a_L_traits, .inl (k 0, 20, .inl L_traits))]) [1, 2] 1 4 hK hE hA hP hD hS (by decide) rfl rfl rfl) rfl rfl hl.1 rfl (lv_room (Nat.le_of_ble_eq_true rfl)) dX5_put_46 ⟨Nat.le_refl _, Nat.le_refl _⟩) hA hP hD hS rfl rfl rfl rfl (fun H locs hP hD hS => ?_)
          refine lv_aload_n hx hb dX5_put_49 rfl (lv_at hl 0 rfl) ?_
          refine va_get (D := G) (ci := 5) (v := .ref a_L) (C := RX5) (T := TX5) (N := 12) hx hb hts iw_X5_put_X5 hown hK hP 0 rfl rfl 0 (by decide) (hts (.fieldLink RX5 10 "SpireLean" "live" "LSpireLean$Town;") (List.mem_of_getElem? (i := 1) rfl)) (fun _ h9 => h9) rfl dX5_put_50 ?_
          refine va_getN (D := G) (ci := 4) (v := .int o5.1) (C := RX4) (T := TX4) (N := 7) hx hb hts iw_X5_put_X4 hown hK hP 1 rfl rfl 1 (by decide) (va_Nw.use rfl (hE.1 (.fieldLinkNest RX5 97 "SpireLean$Town" "draws" "I" "SpireLean") (List.mem_of_getElem? (i := 0) rfl))) (fun _ h9 => h9) rfl dX5_put_53 ?_
          have hr := (zs h)
          subst hr
          exact hret H locs ls 56 hP hS dX5_put_56
        · have h := zif c6 h
          refine lv_bipush (v := (-3)) hx hb dX5_put_35 (by decide) ?_
          have hr := (zs h)
          subst hr
          exact hret H locs ls 37 hP hS dX5_put_37
      · have h := zit c7 h
        refine lv_iconst (v := (-1)) hx hb dX5_put_23 (by decide) ?_
        have hr := (zs h)
        subst hr
        exact hret H locs ls 24 hP hS dX5_put_24
theorem iw_X5_raze_X4 : ∀ w ∈ wsX40, w ∈ wsX5_raze := fun _ h => List.mem_cons_of_mem _ (List.mem_append_right _ h)
theorem iw_X5_raze_X5 : ∀ w ∈ wsX50, w ∈ wsX5_raze := fun _ h => List.mem_cons_of_mem _ (List.mem_append_left _ (List.mem_append_right _ h))
set_option maxHeartbeats 4000000 in
set_option maxRecDepth 100000 in
theorem c_X5_raze (l : Launch) (G : va_G) (k : Nat → ClassId) (tL tM : Nat) (sK sV : Nat → Nat) (a_x : Nat) (a_L : Nat) (a_T : Nat) (a_x_images : Nat) (a_x_kept : Nat) (a_P : Nat) (a_N : Nat) (a_D : Nat) (a_x_sheets : Nat) (a_x_points : Nat) (a_x_tally : Nat) (a_L_traits : Nat) (sz : Nat) (x_textFault : Int32) (x_readFault : Int32) (L_draws : Int32) (L_foot : Int32) (L_point : Int32) (L_stiff : Int32) (L_bears : Int32) (L_year : Int32) (u1 : Int32) (out : Int32 × Int32) (h : p_X5_raze u1 L_draws = some out) : zMi l yX5_raze wsX5_raze 1 22 G k tL tM sK sV [.ref a_x, .int u1] [(a_x, .inr (5, [.ref a_L, .ref a_T, .ref a_x_images, .ref a_x_kept, .ref a_P, .ref a_N, .ref a_D, .ref a_x_sheets, .ref a_x_points, .ref a_x_tally, .int x_textFault, .int x_readFault])), (a_L, .inr (4, [.ref a_L_traits, .int L_draws, .int L_foot, .int L_point, .int L_stiff, .int L_bears, .int L_year]))] [(a_x, .inr (5, [.ref a_L, .ref a_T, .ref a_x_images, .ref a_x_kept, .ref a_P, .ref a_N, .ref a_D, .ref a_x_sheets, .ref a_x_points, .ref a_x_tally, .int x_textFault, .int x_readFault])), (a_L, .inr (4, [.ref a_L_traits, .int out.2, .int L_foot, .int L_point, .int L_stiff, .int L_bears, .int L_year]))] out.1 sz := by
  refine z_meti (cc := cX5_raze) (maxL := 3) (by decide) rfl (Nat.le_of_ble_eq_true rfl) ?_
  intro p e s m below meth c A Q H locs ls hx hb hml hts hown hA hK hE hret hP hD hS hl
  have hown : s.vm.findClass RX5 = some m.cls := hown
  have hl : lv_has ls 3 [(0, .ref a_x), (1, .int u1)] := hl
  unfold p_X5_raze at h
  refine lv_aload_n hx hb dX5_raze_0 rfl (lv_at hl 0 rfl) ?_
  refine va_get (D := G) (ci := 5) (v := .ref a_L) (C := RX5) (T := TX5) (N := 12) hx hb hts iw_X5_raze_X5 hown hK hP 0 rfl rfl 0 (by decide) (hts (.fieldLink RX5 10 "SpireLean" "live" "LSpireLean$Town;") (List.mem_of_getElem? (i := 1) rfl)) (fun _ h9 => h9) rfl dX5_raze_1 ?_
  refine va_getN (D := G) (ci := 4) (v := .int L_draws) (C := RX4) (T := TX4) (N := 7) hx hb hts iw_X5_raze_X4 hown hK hP 1 rfl rfl 1 (by decide) (va_Nw.use rfl (hE.1 (.fieldLinkNest RX5 97 "SpireLean$Town" "draws" "I" "SpireLean") (List.mem_of_getElem? (i := 0) rfl))) (fun _ h9 => h9) rfl dX5_raze_4 ?_
  refine lv_istore_n (lv' := [(2, .int L_draws), (0, .ref a_x), (1, .int u1)]) hx hb dX5_raze_7 rfl hl (by decide) rfl (fun ls hl => ?_)
  refine lv_iload_n hx hb dX5_raze_8 rfl (lv_at hl 2 rfl) ?_
  refine lv_iconst (v := 0) hx hb dX5_raze_9 (by decide) ?_
  refine lv_iload_n hx hb dX5_raze_10 rfl (lv_at hl 0 rfl) ?_
  obtain ⟨o1, hv, h⟩ := zb h
  refine z_goi (w2 := [(a_x, .inr (5, [.ref a_L, .ref a_T, .ref a_x_images, .ref a_x_kept, .ref a_P, .ref a_N, .ref a_D, .ref a_x_sheets, .ref a_x_points, .ref a_x_tally, .int x_textFault, .int x_readFault])), (a_L, .inr (4, [.ref a_L_traits, .int L_draws, .int L_foot, .int L_point, .int L_stiff, .int L_bears, .int L_year]))]) [] (va_runS (As := [.int u1, .int (0 : Int32), .int L_draws]) (rest := []) ⟨hx, hb, hml, hown, hts⟩ (c_X5_within l G k tL tM sK sV H.size u1 (0 : Int32) L_draws o1 hv) (va_cwS 3 hts gX5_raze_X5_within rfl rfl rfl (by decide +kernel) ⟨Nat.le_of_ble_eq_true rfl, Nat.le_of_ble_eq_true rfl⟩) (z_preS (wc := []) [] hK hE hA hP hD hS (by decide) rfl) rfl rfl hl.1 rfl (lv_room (Nat.le_of_ble_eq_true rfl)) dX5_raze_11 ⟨Nat.le_refl _, Nat.le_refl _⟩) hA hP hD hS rfl rfl rfl rfl (fun H locs hP hD hS => ?_)
  refine lv_if_ne (tgt := 19) hx hb dX5_raze_14 (by decide) (fun c2 => ?_) (fun c2 => ?_)
  · have h := zif c2 h
    refine lv_aload_n hx hb dX5_raze_19 rfl (lv_at hl 1 rfl) ?_
    refine va_get (D := G) (ci := 5) (v := .ref a_L) (C := RX5) (T := TX5) (N := 12) hx hb hts iw_X5_raze_X5 hown hK hP 0 rfl rfl 0 (by decide) (hts (.fieldLink RX5 10 "SpireLean" "live" "LSpireLean$Town;") (List.mem_of_getElem? (i := 1) rfl)) (fun _ h9 => h9) rfl dX5_raze_20 ?_
    refine lv_iload_n hx hb dX5_raze_23 rfl (lv_at hl 2 rfl) ?_
    refine va_putN (D := G) (ci := 4) (v := .int u1) (ty := .int) (C := RX4) (T := TX4) (N := 7) hx hb hts iw_X5_raze_X4 tyX4 tyX4_ok nmX4 hown hK hP hD hS 1 rfl rfl 1 (by decide) (va_Nw.use rfl (hE.1 (.fieldLinkNest RX5 97 "SpireLean$Town" "draws" "I" "SpireLean") (List.mem_of_getElem? (i := 0) rfl))) (fun _ h9 => h9) rfl (tyX4_ok 1 (by decide)) rfl rfl (Nat.le_of_ble_eq_true rfl) dX5_raze_24 (fun H locs hP hD hS => ?_)
    have hP : va_P G vwCl [(a_x, .inr (5, [.ref a_L, .ref a_T, .ref a_x_images, .ref a_x_kept, .ref a_P, .ref a_N, .ref a_D, .ref a_x_sheets, .ref a_x_points, .ref a_x_tally, .int x_textFault, .int x_readFault])), (a_L, .inr (4, [.ref a_L_traits, .int u1, .int L_foot, .int L_point, .int L_stiff, .int L_bears, .int L_year]))] H := hP
    have hD : va_D A [(a_x, .inr (5, [.ref a_L, .ref a_T, .ref a_x_images, .ref a_x_kept, .ref a_P, .ref a_N, .ref a_D, .ref a_x_sheets, .ref a_x_points, .ref a_x_tally, .int x_textFault, .int x_readFault])), (a_L, .inr (4, [.ref a_L_traits, .int u1, .int L_foot, .int L_point, .int L_stiff, .int L_bears, .int L_year]))] := hD
    refine lv_iload_n hx hb dX5_raze_27 rfl (lv_at hl 0 rfl) ?_
    have hr := (zs h)
    subst hr
    exact hret H locs ls 28 hP hS dX5_raze_28
  · have h := zit c2 h
    refine lv_iconst (v := (-1)) hx hb dX5_raze_17 (by decide) ?_
    have hr := (zs h)
    subst hr
    exact hret H locs ls 18 hP hS dX5_raze_18
theorem iw_X5_years_X4 : ∀ w ∈ wsX40, w ∈ wsX5_years := fun _ h => List.mem_cons_of_mem _ (List.mem_append_right _ h)
theorem iw_X5_years_X5 : ∀ w ∈ wsX50, w ∈ wsX5_years := fun _ h => List.mem_cons_of_mem _ (List.mem_append_left _ (List.mem_append_right _ h))
set_option maxHeartbeats 4000000 in
set_option maxRecDepth 100000 in
theorem c_X5_years (l : Launch) (G : va_G) (k : Nat → ClassId) (tL tM : Nat) (sK sV : Nat → Nat) (a_x : Nat) (a_L : Nat) (a_T : Nat) (a_x_images : Nat) (a_x_kept : Nat) (a_P : Nat) (a_N : Nat) (a_D : Nat) (a_x_sheets : Nat) (a_x_points : Nat) (a_x_tally : Nat) (a_L_traits : Nat) (sz : Nat) (x_textFault : Int32) (x_readFault : Int32) (L_draws : Int32) (L_foot : Int32) (L_point : Int32) (L_stiff : Int32) (L_bears : Int32) (L_year : Int32) (L_traits : Nat → Int32) (u1 : Int32) (out : Int32 × Int32 × Int32) (h : p_X5_years u1 L_draws L_foot L_point L_stiff L_bears L_year L_traits = some out) : zMi l yX5_years wsX5_years 6 127 G k tL tM sK sV [.ref a_x, .int u1] [(a_x, .inr (5, [.ref a_L, .ref a_T, .ref a_x_images, .ref a_x_kept, .ref a_P, .ref a_N, .ref a_D, .ref a_x_sheets, .ref a_x_points, .ref a_x_tally, .int x_textFault, .int x_readFault])), (a_L, .inr (4, [.ref a_L_traits, .int L_draws, .int L_foot, .int L_point, .int L_stiff, .int L_bears, .int L_year])), (a_L_traits, .inl (k 0, 20, .inl L_traits))] [(a_x, .inr (5, [.ref a_L, .ref a_T, .ref a_x_images, .ref a_x_kept, .ref a_P, .ref a_N, .ref a_D, .ref a_x_sheets, .ref a_x_points, .ref a_x_tally, .int x_textFault, .int x_readFault])), (a_L, .inr (4, [.ref a_L_traits, .int L_draws, .int L_foot, .int out.2.1, .int L_stiff, .int L_bears, .int out.2.2])), (a_L_traits, .inl (k 0, 20, .inl L_traits))] out.1 sz := by
  refine z_meti (cc := cX5_years) (maxL := 2) (by decide) rfl (Nat.le_of_ble_eq_true rfl) ?_
  intro p e s m below meth c A Q H locs ls hx hb hml hts hown hA hK hE hret hP hD hS hl
  have hown : s.vm.findClass RX5 = some m.cls := hown
  have hl : lv_has ls 2 [(0, .ref a_x), (1, .int u1)] := hl
  unfold p_X5_years at h
  refine lv_iload_n hx hb dX5_years_0 rfl (lv_at hl 1 rfl) ?_
  refine lv_iconst (v := 0) hx hb dX5_years_1 (by decide) ?_
  refine lv_bipush (v := 30) hx hb dX5_years_2 (by decide) ?_
  obtain ⟨o1, hv, h⟩ := zb h
  refine z_goi (w2 := [(a_x, .inr (5, [.ref a_L, .ref a_T, .ref a_x_images, .ref a_x_kept, .ref a_P, .ref a_N, .ref a_D, .ref a_x_sheets, .ref a_x_points, .ref a_x_tally, .int x_textFault, .int x_readFault])), (a_L, .inr (4, [.ref a_L_traits, .int L_draws, .int L_foot, .int L_point, .int L_stiff, .int L_bears, .int L_year])), (a_L_traits, .inl (k 0, 20, .inl L_traits))]) [] (va_runS (As := [.int u1, .int (0 : Int32), .int (30 : Int32)]) (rest := []) ⟨hx, hb, hml, hown, hts⟩ (c_X5_within l G k tL tM sK sV H.size u1 (0 : Int32) (30 : Int32) o1 hv) (va_cwS 3 hts gX5_years_X5_within rfl rfl rfl (by decide +kernel) ⟨Nat.le_of_ble_eq_true rfl, Nat.le_of_ble_eq_true rfl⟩) (z_preS (wc := []) [] hK hE hA hP hD hS (by decide) rfl) rfl rfl hl.1 rfl (lv_room (Nat.le_of_ble_eq_true rfl)) dX5_years_4 ⟨Nat.le_refl _, Nat.le_refl _⟩) hA hP hD hS rfl rfl rfl rfl (fun H locs hP hD hS => ?_)
  refine lv_if_ne (tgt := 12) hx hb dX5_years_7 (by decide) (fun c4 => ?_) (fun c4 => ?_)
  · have h := zif c4 h
    refine lv_aload_n hx hb dX5_years_12 rfl (lv_at hl 0 rfl) ?_
    refine va_get (D := G) (ci := 5) (v := .ref a_L) (C := RX5) (T := TX5) (N := 12) hx hb hts iw_X5_years_X5 hown hK hP 0 rfl rfl 0 (by decide) (hts (.fieldLink RX5 10 "SpireLean" "live" "LSpireLean$Town;") (List.mem_of_getElem? (i := 1) rfl)) (fun _ h9 => h9) rfl dX5_years_13 ?_
    refine va_getN (D := G) (ci := 4) (v := .int L_year) (C := RX4) (T := TX4) (N := 7) hx hb hts iw_X5_years_X4 hown hK hP 1 rfl rfl 6 (by decide) (va_Nw.use rfl (hE.1 (.fieldLinkNest RX5 100 "SpireLean$Town" "year" "I" "SpireLean") (List.mem_of_getElem? (i := 12) rfl))) (fun _ h9 => h9) rfl dX5_years_16 ?_
    refine lv_iload_n hx hb dX5_years_19 rfl (lv_at hl 1 rfl) ?_
    refine lv_iadd hx hb dX5_years_20 ?_
    refine lv_sipush (v := 999) hx hb dX5_years_21 (by decide) ?_
    refine lv_icmp_le (tgt := 30) hx hb dX5_years_24 (by decide) (fun c3 => ?_) (fun c3 => ?_)
    · have h := zit c3 h
      refine lv_aload_n hx hb dX5_years_30 rfl (lv_at hl 0 rfl) ?_
      refine va_get (D := G) (ci := 5) (v := .ref a_L) (C := RX5) (T := TX5) (N := 12) hx hb hts iw_X5_years_X5 hown hK hP 0 rfl rfl 0 (by decide) (hts (.fieldLink RX5 10 "SpireLean" "live" "LSpireLean$Town;") (List.mem_of_getElem? (i := 1) rfl)) (fun _ h9 => h9) rfl dX5_years_31 ?_
      refine lv_iload_n hx hb dX5_years_34 rfl (lv_at hl 1 rfl) ?_
      obtain ⟨o2, hv, h⟩ := zb h
      refine z_gov (w2 := [(a_x, .inr (5, [.ref a_L, .ref a_T, .ref a_x_images, .ref a_x_kept, .ref a_P, .ref a_N, .ref a_D, .ref a_x_sheets, .ref a_x_points, .ref a_x_tally, .int x_textFault, .int x_readFault])), (a_L, .inr (4, [.ref a_L_traits, .int L_draws, .int L_foot, .int o2.1, .int L_stiff, .int L_bears, .int o2.2])), (a_L_traits, .inl (k 0, 20, .inl L_traits))]) [1, 2] (va_runVN (As := [.int u1]) (rest := []) ⟨hx, hb, hml, hown, hts⟩ (c_X4_passYears l G k tL tM sK sV a_L a_L_traits H.size L_draws L_foot L_point L_stiff L_bears L_year L_traits u1 o2 hv) ⟨va_cnB 1 hts gX5_years_X4_passYears_n164 rfl rfl rfl (hE.1 (.methodLinkNest RX5 164 yX4_passYears "SpireLean") (List.mem_of_getElem? (i := 49) rfl)) (hts (.initialized RX4) (List.mem_of_getElem? (i := 7) rfl)) (by decide +kernel) ⟨Nat.le_of_ble_eq_true rfl, Nat.le_of_ble_eq_true rfl⟩, (hts (.instanceMethod yX4_passYears) (List.mem_of_getElem? (i := 6) rfl)), (hts (.selects RX4 yX4_passYears yX4_passYears) (List.mem_of_getElem? (i := 8) rfl))⟩ (z_preV (wc := [(a_L, .inr (4, [.ref a_L_traits, .int L_draws, .int L_foot, .int L_point, .int L_stiff, .int L_bears, .int L_year])), (a_L_traits, .inl (k 0, 20, .inl L_traits))]) [1, 2] 1 4 hK hE hA hP hD hS (by decide) rfl rfl rfl) rfl rfl hl.1 rfl (lv_room (Nat.le_of_ble_eq_true rfl)) dX5_years_35 ⟨Nat.le_refl _, Nat.le_refl _⟩) hA hP hD hS rfl rfl rfl rfl (fun H locs hP hD hS => ?_)
      refine lv_aload_n hx hb dX5_years_38 rfl (lv_at hl 0 rfl) ?_
      refine va_get (D := G) (ci := 5) (v := .ref a_L) (C := RX5) (T := TX5) (N := 12) hx hb hts iw_X5_years_X5 hown hK hP 0 rfl rfl 0 (by decide) (hts (.fieldLink RX5 10 "SpireLean" "live" "LSpireLean$Town;") (List.mem_of_getElem? (i := 1) rfl)) (fun _ h9 => h9) rfl dX5_years_39 ?_
      refine va_getN (D := G) (ci := 4) (v := .int o2.1) (C := RX4) (T := TX4) (N := 7) hx hb hts iw_X5_years_X4 hown hK hP 1 rfl rfl 3 (by decide) (va_Nw.use rfl (hE.1 (.fieldLinkNest RX5 106 "SpireLean$Town" "point" "I" "SpireLean") (List.mem_of_getElem? (i := 6) rfl))) (fun _ h9 => h9) rfl dX5_years_42 ?_
      have hr := (zs h)
      subst hr
      exact hret H locs ls 45 hP hS dX5_years_45
    · have h := zif c3 h
      refine lv_bipush (v := (-3)) hx hb dX5_years_27 (by decide) ?_
      have hr := (zs h)
      subst hr
      exact hret H locs ls 29 hP hS dX5_years_29
  · have h := zit c4 h
    refine lv_iconst (v := (-1)) hx hb dX5_years_10 (by decide) ?_
    have hr := (zs h)
    subst hr
    exact hret H locs ls 11 hP hS dX5_years_11
set_option maxHeartbeats 4000000 in
set_option maxRecDepth 100000 in
theorem c_X5_isHalf (l : Launch) (G : va_G) (k : Nat → ClassId) (tL tM : Nat) (sK sV : Nat → Nat) (sz : Nat) (u1 : Int32) (out : Int32) (h : p_X5_isHalf u1 = some out) : zMi l yX5_isHalf wsX5_isHalf 1 22 G k tL tM sK sV [.int u1] [] [] out sz := by
  refine z_metz (cc := cX5_isHalf) (maxL := 1) (by decide) rfl (Nat.le_of_ble_eq_true rfl) ?_
  intro p e s m below meth c A Q H locs ls hx hb hml hts hown hA hK hE hret hP hD hS hl
  have hown : s.vm.findClass RX5 = some m.cls := hown
  have hl : lv_has ls 1 [(0, .int u1)] := hl
  unfold p_X5_isHalf at h
  refine lv_iload_n hx hb dX5_isHalf_0 rfl (lv_at hl 0 rfl) ?_
  refine lv_iconst (v := 0) hx hb dX5_isHalf_1 (by decide) ?_
  refine lv_iconst (v := 1) hx hb dX5_isHalf_2 (by decide) ?_
  obtain ⟨o1, hv, h⟩ := zb h
  refine z_goi (w2 := []) [] (va_runS (As := [.int u1, .int (0 : Int32), .int (1 : Int32)]) (rest := []) ⟨hx, hb, hml, hown, hts⟩ (c_X5_within l G k tL tM sK sV H.size u1 (0 : Int32) (1 : Int32) o1 hv) (va_cwS 3 hts gX5_isHalf_X5_within rfl rfl rfl (by decide +kernel) ⟨Nat.le_of_ble_eq_true rfl, Nat.le_of_ble_eq_true rfl⟩) (z_preS (wc := []) [] hK hE hA hP hD hS (by decide) rfl) rfl rfl hl.1 rfl (lv_room (Nat.le_of_ble_eq_true rfl)) dX5_isHalf_3 ⟨Nat.le_refl _, Nat.le_refl _⟩) hA hP hD hS rfl rfl rfl rfl (fun H locs hP hD hS => ?_)
  obtain ⟨v2, hv, h⟩ := zb h
  obtain ⟨hbit, hvv⟩ := z_bitS hv
  rw [hvv]
  have hr := (zs h)
  subst hr
  exact hret H locs ls 6 hbit hP hS dX5_isHalf_6
set_option maxHeartbeats 4000000 in
set_option maxRecDepth 100000 in
theorem c_X5_commonDivisor (l : Launch) (G : va_G) (k : Nat → ClassId) (tL tM : Nat) (sK sV : Nat → Nat) (sz : Nat) (u1 : Int64) (u2 : Int64) (out : Int64) (h : p_X5_commonDivisor u1 u2 = some out) : zMl l yX5_commonDivisor wsX5_commonDivisor 0 0 G k tL tM sK sV [.long u1, .long u2] [] [] out sz := by
  refine z_metl (cc := cX5_commonDivisor) (maxL := 11) (by decide) rfl (Nat.le_of_ble_eq_true rfl) ?_
  intro p e s m below meth c A Q H locs ls hx hb hml hts hown hA hK hE hret hP hD hS hl
  have hown : s.vm.findClass RX5 = some m.cls := hown
  have hl : lv_has ls 11 [(0, .long u1), (2, .long u2)] := hl
  unfold p_X5_commonDivisor at h
  refine lv_lload_n hx hb dX5_commonDivisor_0 rfl (lv_at hl 0 rfl) ?_
  refine lv_lstore (lv' := [(4, .long u1), (0, .long u1), (2, .long u2)]) hx hb dX5_commonDivisor_1 hl (by decide) rfl (fun ls hl => ?_)
  refine lv_lload_n hx hb dX5_commonDivisor_3 rfl (lv_at hl 2 rfl) ?_
  refine lv_lstore (lv' := [(6, .long u2), (4, .long u1), (0, .long u1), (2, .long u2)]) hx hb dX5_commonDivisor_4 hl (by decide) rfl (fun ls hl => ?_)
  refine lv_iconst (v := 0) hx hb dX5_commonDivisor_6 (by decide) ?_
  refine lv_istore (lv' := [(8, .int (0 : Int32)), (6, .long u2), (4, .long u1), (0, .long u1), (2, .long u2)]) hx hb dX5_commonDivisor_7 hl (by decide) rfl (fun ls hl => ?_)
  obtain ⟨e5, hv, h⟩ := zb h
  have hJ4 : ∀ (e5_ : Int64), e5_ = e5 → zW p l e (zR 0 0) s m ([.long u1, .long u2] : List Value).toArray below meth c Q 11 A G [] [(4, .long e5_)] 44 [] := by
    intro e5_ hz
    subst hz
    intro H locs ls hP hD hS hl
    refine lv_lload hx hb dX5_commonDivisor_44 (lv_at hl 0 rfl) ?_
    have hr := (zs h)
    subst hr
    exact hret H locs ls 46 hP hS dX5_commonDivisor_46
  refine z_lpW (Wh := fun (x1 : Int64 × Int64 × Int32) => zW p l e (zR 0 0) s m ([.long u1, .long u2] : List Value).toArray below meth c Q 11 A G [] [(4, .long x1.1), (6, .long x1.2.1), (8, .int x1.2.2)] 9 []) ?_ 1000 _ hv H locs ls hP hD hS (lv_sub hl [2, 1, 0] rfl)
  clear h
  intro x1 o h hC2 hX3 H locs ls hP hD hS hl
  unfold p_X5_commonDivisor_b9 at h
  refine lv_iload hx hb dX5_commonDivisor_9 (lv_at hl 2 rfl) ?_
  refine lv_bipush (v := 100) hx hb dX5_commonDivisor_11 (by decide) ?_
  refine lv_icmp_ge (tgt := 44) hx hb dX5_commonDivisor_13 (by decide) (fun c9 => ?_) (fun c9 => ?_)
  · have h := zit c9 h
    exact hJ4 _ (hX3 _ (zs h)) H locs ls hP hD hS (lv_sub hl [0] rfl)
  · have h := zif c9 h
    refine lv_lload hx hb dX5_commonDivisor_16 (lv_at hl 1 rfl) ?_
    refine lv_lconst (v := 0) hx hb dX5_commonDivisor_18 (by decide) ?_
    refine W.lcmp hx hb dX5_commonDivisor_19 ?_
    refine lv_if_eq (tgt := 44) hx hb dX5_commonDivisor_20 (by decide) (fun c8 => ?_) (fun c8 => ?_)
    · have h := zit c8 h
      exact hJ4 _ (hX3 _ (zs h)) H locs ls hP hD hS (lv_sub hl [0] rfl)
    · have h := zif c8 h
      refine lv_lload hx hb dX5_commonDivisor_23 (lv_at hl 0 rfl) ?_
      refine lv_lload hx hb dX5_commonDivisor_25 (lv_at hl 1 rfl) ?_
      obtain ⟨v7, hv, h⟩ := zb h
      obtain ⟨hne, hvv⟩ := z_remLS hv
      refine lv_lrem hx hb dX5_commonDivisor_27 hne ?_
      rw [hvv]
      refine lv_lstore (lv' := [(9, .long v7), (4, .long x1.1), (6, .long x1.2.1), (8, .int x1.2.2)]) hx hb dX5_commonDivisor_28 hl (by decide) rfl (fun ls hl => ?_)
      refine lv_lload hx hb dX5_commonDivisor_30 (lv_at hl 2 rfl) ?_
      refine lv_lstore (lv' := [(4, .long x1.2.1), (9, .long v7), (6, .long x1.2.1), (8, .int x1.2.2)]) hx hb dX5_commonDivisor_32 hl (by decide) rfl (fun ls hl => ?_)
      refine lv_lload hx hb dX5_commonDivisor_34 (lv_at hl 1 rfl) ?_
      refine lv_lstore (lv' := [(6, .long v7), (4, .long x1.2.1), (9, .long v7), (8, .int x1.2.2)]) hx hb dX5_commonDivisor_36 hl (by decide) rfl (fun ls hl => ?_)
      refine lv_iinc (v := x1.2.2 + (1 : Int32)) (lv' := [(8, .int (x1.2.2 + (1 : Int32))), (6, .long v7), (4, .long x1.2.1), (9, .long v7)]) hx hb dX5_commonDivisor_38 hl (k := 3) rfl rfl (by decide) rfl (fun ls hl => ?_)
      refine lv_goto (tgt := 9) hx hb dX5_commonDivisor_41 (by decide) ?_
      exact hC2 _ (zs h) H locs ls hP hD hS (lv_sub hl [2, 1, 0] rfl)
set_option maxHeartbeats 4000000 in
set_option maxRecDepth 100000 in
theorem c_X5_part (l : Launch) (G : va_G) (k : Nat → ClassId) (tL tM : Nat) (sK sV : Nat → Nat) (sz : Nat) (u1 : Int64) (u2 : Int64) (u3 : Int32) (out : Int64) (h : p_X5_part u1 u2 u3 = some out) : zMl l yX5_part wsX5_part 1 30 G k tL tM sK sV [.long u1, .long u2, .int u3] [] [] out sz := by
  refine z_metl (cc := cX5_part) (maxL := 7) (by decide) rfl (Nat.le_of_ble_eq_true rfl) ?_
  intro p e s m below meth c A Q H locs ls hx hb hml hts hown hA hK hE hret hP hD hS hl
  have hown : s.vm.findClass RX5 = some m.cls := hown
  have hl : lv_has ls 7 [(0, .long u1), (2, .long u2), (4, .int u3)] := hl
  unfold p_X5_part at h
  refine lv_lload_n hx hb dX5_part_0 rfl (lv_at hl 0 rfl) ?_
  refine lv_lload_n hx hb dX5_part_1 rfl (lv_at hl 1 rfl) ?_
  obtain ⟨o1, hv, h⟩ := zb h
  refine z_gol (w2 := []) [] (va_runS (As := [.long u1, .long u2]) (rest := []) ⟨hx, hb, hml, hown, hts⟩ (c_X5_commonDivisor l G k tL tM sK sV H.size u1 u2 o1 hv) (va_cwS 2 hts gX5_part_X5_commonDivisor rfl rfl rfl (by decide +kernel) ⟨Nat.le_of_ble_eq_true rfl, Nat.le_of_ble_eq_true rfl⟩) (z_preS (wc := []) [] hK hE hA hP hD hS (by decide) rfl) rfl rfl hl.1 rfl (lv_room (Nat.le_of_ble_eq_true rfl)) dX5_part_2 ⟨Nat.le_refl _, Nat.le_refl _⟩) hA hP hD hS rfl rfl rfl rfl (fun H locs hP hD hS => ?_)
  refine lv_lstore (lv' := [(5, .long o1), (0, .long u1), (2, .long u2), (4, .int u3)]) hx hb dX5_part_5 hl (by decide) rfl (fun ls hl => ?_)
  refine lv_lload hx hb dX5_part_7 (lv_at hl 0 rfl) ?_
  refine lv_lconst (v := 0) hx hb dX5_part_9 (by decide) ?_
  refine W.lcmp hx hb dX5_part_10 ?_
  refine lv_if_ne (tgt := 16) hx hb dX5_part_11 (by decide) (fun c5 => ?_) (fun c5 => ?_)
  · have h := zif c5 h
    refine lv_iload hx hb dX5_part_16 (lv_at hl 3 rfl) ?_
    refine lv_if_ne (tgt := 28) hx hb dX5_part_18 (by decide) (fun c4 => ?_) (fun c4 => ?_)
    · have h := zif c4 h
      refine lv_lload_n hx hb dX5_part_28 rfl (lv_at hl 2 rfl) ?_
      refine lv_lload hx hb dX5_part_29 (lv_at hl 0 rfl) ?_
      obtain ⟨v2, hv, h⟩ := zb h
      obtain ⟨hne, hvv⟩ := z_divLS hv
      refine lv_ldiv hx hb dX5_part_31 hne ?_
      rw [hvv]
      have hr := (zs h)
      subst hr
      exact hret H locs ls 32 hP hS dX5_part_32
    · have h := zit c4 h
      refine lv_lload_n hx hb dX5_part_21 rfl (lv_at hl 1 rfl) ?_
      refine lv_lload hx hb dX5_part_22 (lv_at hl 0 rfl) ?_
      obtain ⟨v3, hv, h⟩ := zb h
      obtain ⟨hne, hvv⟩ := z_divLS hv
      refine lv_ldiv hx hb dX5_part_24 hne ?_
      rw [hvv]
      refine lv_goto (tgt := 32) hx hb dX5_part_25 (by decide) ?_
      have hr := (zs h)
      subst hr
      exact hret H locs ls 32 hP hS dX5_part_32
  · have h := zit c5 h
    refine lv_lconst (v := 0) hx hb dX5_part_14 (by decide) ?_
    have hr := (zs h)
    subst hr
    exact hret H locs ls 15 hP hS dX5_part_15
theorem iw_X5_suppose_X5 : ∀ w ∈ wsX50, w ∈ wsX5_suppose := fun _ h => List.mem_cons_of_mem _ (List.mem_append_left _ (List.mem_append_right _ h))
set_option maxHeartbeats 4000000 in
set_option maxRecDepth 100000 in
theorem c_X5_suppose (l : Launch) (G : va_G) (k : Nat → ClassId) (tL tM : Nat) (sK sV : Nat → Nat) (a_x : Nat) (a_L : Nat) (a_T : Nat) (a_x_images : Nat) (a_x_kept : Nat) (a_P : Nat) (a_N : Nat) (a_D : Nat) (a_x_sheets : Nat) (a_x_points : Nat) (a_x_tally : Nat) (a_L_traits : Nat) (a_T_traits : Nat) (sz : Nat) (x_textFault : Int32) (x_readFault : Int32) (L_draws : Int32) (L_foot : Int32) (L_point : Int32) (L_stiff : Int32) (L_bears : Int32) (L_year : Int32) (L_traits : Nat → Int32) (T_draws : Int32) (T_foot : Int32) (T_point : Int32) (T_stiff : Int32) (T_bears : Int32) (T_year : Int32) (T_traits : Nat → Int32) (u1 : Int32) (u2 : Int32) (u3 : Int32) (out : Int32 × Int32 × Int32 × Int32 × Int32 × Int32 × (Nat → Int32)) (h : p_X5_suppose u1 u2 u3 L_draws L_foot L_point L_stiff L_bears L_year L_traits T_traits = some out) : zMv l yX5_suppose wsX5_suppose 2 61 G k tL tM sK sV [.ref a_x, .int u1, .int u2, .int u3] [(a_x, .inr (5, [.ref a_L, .ref a_T, .ref a_x_images, .ref a_x_kept, .ref a_P, .ref a_N, .ref a_D, .ref a_x_sheets, .ref a_x_points, .ref a_x_tally, .int x_textFault, .int x_readFault])), (a_L, .inr (4, [.ref a_L_traits, .int L_draws, .int L_foot, .int L_point, .int L_stiff, .int L_bears, .int L_year])), (a_L_traits, .inl (k 0, 20, .inl L_traits)), (a_T, .inr (4, [.ref a_T_traits, .int T_draws, .int T_foot, .int T_point, .int T_stiff, .int T_bears, .int T_year])), (a_T_traits, .inl (k 0, 20, .inl T_traits))] [(a_x, .inr (5, [.ref a_L, .ref a_T, .ref a_x_images, .ref a_x_kept, .ref a_P, .ref a_N, .ref a_D, .ref a_x_sheets, .ref a_x_points, .ref a_x_tally, .int x_textFault, .int x_readFault])), (a_L, .inr (4, [.ref a_L_traits, .int L_draws, .int L_foot, .int L_point, .int L_stiff, .int L_bears, .int L_year])), (a_L_traits, .inl (k 0, 20, .inl L_traits)), (a_T, .inr (4, [.ref a_T_traits, .int out.1, .int out.2.1, .int out.2.2.1, .int out.2.2.2.1, .int out.2.2.2.2.1, .int out.2.2.2.2.2.1])), (a_T_traits, .inl (k 0, 20, .inl out.2.2.2.2.2.2))] sz := by
  refine z_metv (cc := cX5_suppose) (maxL := 4) (by decide) rfl (Nat.le_of_ble_eq_true rfl) ?_
  intro p e s m below meth c A Q H locs ls hx hb hml hts hown hA hK hE hret hP hD hS hl
  have hown : s.vm.findClass RX5 = some m.cls := hown
  have hl : lv_has ls 4 [(0, .ref a_x), (1, .int u1), (2, .int u2), (3, .int u3)] := hl
  unfold p_X5_suppose at h
  refine lv_aload_n hx hb dX5_suppose_0 rfl (lv_at hl 0 rfl) ?_
  refine va_get (D := G) (ci := 5) (v := .ref a_T) (C := RX5) (T := TX5) (N := 12) hx hb hts iw_X5_suppose_X5 hown hK hP 0 rfl rfl 1 (by decide) (hts (.fieldLink RX5 16 "SpireLean" "trial" "LSpireLean$Town;") (List.mem_of_getElem? (i := 1) rfl)) (fun _ h9 => h9) rfl dX5_suppose_1 ?_
  refine lv_aload_n hx hb dX5_suppose_4 rfl (lv_at hl 0 rfl) ?_
  refine va_get (D := G) (ci := 5) (v := .ref a_L) (C := RX5) (T := TX5) (N := 12) hx hb hts iw_X5_suppose_X5 hown hK hP 0 rfl rfl 0 (by decide) (hts (.fieldLink RX5 10 "SpireLean" "live" "LSpireLean$Town;") (List.mem_of_getElem? (i := 2) rfl)) (fun _ h9 => h9) rfl dX5_suppose_5 ?_
  obtain ⟨o1, hv, h⟩ := zb h
  refine z_gov (w2 := [(a_x, .inr (5, [.ref a_L, .ref a_T, .ref a_x_images, .ref a_x_kept, .ref a_P, .ref a_N, .ref a_D, .ref a_x_sheets, .ref a_x_points, .ref a_x_tally, .int x_textFault, .int x_readFault])), (a_L, .inr (4, [.ref a_L_traits, .int L_draws, .int L_foot, .int L_point, .int L_stiff, .int L_bears, .int L_year])), (a_L_traits, .inl (k 0, 20, .inl L_traits)), (a_T, .inr (4, [.ref a_T_traits, .int o1.1, .int o1.2.1, .int o1.2.2.1, .int o1.2.2.2.1, .int o1.2.2.2.2.1, .int o1.2.2.2.2.2.1])), (a_T_traits, .inl (k 0, 20, .inl o1.2.2.2.2.2.2))]) [3, 4, 1, 2] (va_runVN (As := [.ref a_L]) (rest := []) ⟨hx, hb, hml, hown, hts⟩ (c_X4_copyFrom l G k tL tM sK sV a_T a_T_traits a_L a_L_traits H.size T_draws T_foot T_point T_stiff T_bears T_year T_traits L_draws L_foot L_point L_stiff L_bears L_year L_traits o1 hv) ⟨va_cnB 1 hts gX5_suppose_X4_copyFrom_n90 rfl rfl rfl (hE.1 (.methodLinkNest RX5 90 yX4_copyFrom "SpireLean") (List.mem_of_getElem? (i := 35) rfl)) (hts (.initialized RX4) (List.mem_of_getElem? (i := 4) rfl)) (by decide +kernel) ⟨Nat.le_of_ble_eq_true rfl, Nat.le_of_ble_eq_true rfl⟩, (hts (.instanceMethod yX4_copyFrom) (List.mem_of_getElem? (i := 3) rfl)), (hts (.selects RX4 yX4_copyFrom yX4_copyFrom) (List.mem_of_getElem? (i := 5) rfl))⟩ (z_preV (wc := [(a_T, .inr (4, [.ref a_T_traits, .int T_draws, .int T_foot, .int T_point, .int T_stiff, .int T_bears, .int T_year])), (a_T_traits, .inl (k 0, 20, .inl T_traits)), (a_L, .inr (4, [.ref a_L_traits, .int L_draws, .int L_foot, .int L_point, .int L_stiff, .int L_bears, .int L_year])), (a_L_traits, .inl (k 0, 20, .inl L_traits))]) [3, 4, 1, 2] 3 4 hK hE hA hP hD hS (by decide) rfl rfl rfl) rfl rfl hl.1 rfl (lv_room (Nat.le_of_ble_eq_true rfl)) dX5_suppose_8 ⟨Nat.le_refl _, Nat.le_refl _⟩) hA hP hD hS rfl rfl rfl rfl (fun H locs hP hD hS => ?_)
  refine lv_aload_n hx hb dX5_suppose_11 rfl (lv_at hl 0 rfl) ?_
  refine va_get (D := G) (ci := 5) (v := .ref a_T) (C := RX5) (T := TX5) (N := 12) hx hb hts iw_X5_suppose_X5 hown hK hP 0 rfl rfl 1 (by decide) (hts (.fieldLink RX5 16 "SpireLean" "trial" "LSpireLean$Town;") (List.mem_of_getElem? (i := 1) rfl)) (fun _ h9 => h9) rfl dX5_suppose_12 ?_
  refine lv_iload_n hx hb dX5_suppose_15 rfl (lv_at hl 1 rfl) ?_
  refine lv_iload_n hx hb dX5_suppose_16 rfl (lv_at hl 2 rfl) ?_
  refine lv_iload_n hx hb dX5_suppose_17 rfl (lv_at hl 3 rfl) ?_
  obtain ⟨o2, hv, h⟩ := zb h
  refine z_gov (w2 := [(a_x, .inr (5, [.ref a_L, .ref a_T, .ref a_x_images, .ref a_x_kept, .ref a_P, .ref a_N, .ref a_D, .ref a_x_sheets, .ref a_x_points, .ref a_x_tally, .int x_textFault, .int x_readFault])), (a_L, .inr (4, [.ref a_L_traits, .int L_draws, .int L_foot, .int L_point, .int L_stiff, .int L_bears, .int L_year])), (a_L_traits, .inl (k 0, 20, .inl L_traits)), (a_T, .inr (4, [.ref a_T_traits, .int o1.1, .int o1.2.1, .int o1.2.2.1, .int o1.2.2.2.1, .int o1.2.2.2.2.1, .int o1.2.2.2.2.2.1])), (a_T_traits, .inl (k 0, 20, .inl o2))]) [3, 4] (va_runVN (As := [.int u1, .int u2, .int u3]) (rest := []) ⟨hx, hb, hml, hown, hts⟩ (c_X4_setTrait l G k tL tM sK sV a_T a_T_traits H.size o1.1 o1.2.1 o1.2.2.1 o1.2.2.2.1 o1.2.2.2.2.1 o1.2.2.2.2.2.1 o1.2.2.2.2.2.2 u1 u2 u3 o2 hv) ⟨va_cnB 3 hts gX5_suppose_X4_setTrait_n150 rfl rfl rfl (hE.1 (.methodLinkNest RX5 150 yX4_setTrait "SpireLean") (List.mem_of_getElem? (i := 46) rfl)) (hts (.initialized RX4) (List.mem_of_getElem? (i := 4) rfl)) (by decide +kernel) ⟨Nat.le_of_ble_eq_true rfl, Nat.le_of_ble_eq_true rfl⟩, (hts (.instanceMethod yX4_setTrait) (List.mem_of_getElem? (i := 18) rfl)), (hts (.selects RX4 yX4_setTrait yX4_setTrait) (List.mem_of_getElem? (i := 19) rfl))⟩ (z_preV (wc := [(a_T, .inr (4, [.ref a_T_traits, .int o1.1, .int o1.2.1, .int o1.2.2.1, .int o1.2.2.2.1, .int o1.2.2.2.2.1, .int o1.2.2.2.2.2.1])), (a_T_traits, .inl (k 0, 20, .inl o1.2.2.2.2.2.2))]) [3, 4] 3 4 hK hE hA hP hD hS (by decide) rfl rfl rfl) rfl rfl hl.1 rfl (lv_room (Nat.le_of_ble_eq_true rfl)) dX5_suppose_18 ⟨Nat.le_refl _, Nat.le_refl _⟩) hA hP hD hS rfl rfl rfl rfl (fun H locs hP hD hS => ?_)
  have hr := (zs h)
  subst hr
  exact hret H locs ls 21 hP hS dX5_suppose_21
set_option maxHeartbeats 4000000 in
set_option maxRecDepth 100000 in
theorem c_X5_chosen (l : Launch) (G : va_G) (k : Nat → ClassId) (tL tM : Nat) (sK sV : Nat → Nat) (sz : Nat) (u1 : Int32) (u2 : Int32) (u3 : Int32) (out : Int32) (h : p_X5_chosen u1 u2 u3 = some out) : zMi l yX5_chosen wsX5_chosen 0 0 G k tL tM sK sV [.int u1, .int u2, .int u3] [] [] out sz := by
  refine z_meti (cc := cX5_chosen) (maxL := 3) (by decide) rfl (Nat.le_of_ble_eq_true rfl) ?_
  intro p e s m below meth c A Q H locs ls hx hb hml hts hown hA hK hE hret hP hD hS hl
  have hown : s.vm.findClass RX5 = some m.cls := hown
  have hl : lv_has ls 3 [(0, .int u1), (1, .int u2), (2, .int u3)] := hl
  unfold p_X5_chosen at h
  refine lv_iload_n hx hb dX5_chosen_0 rfl (lv_at hl 0 rfl) ?_
  refine lv_bipush (v := (-4)) hx hb dX5_chosen_1 (by decide) ?_
  refine lv_icmp_ne (tgt := 9) hx hb dX5_chosen_3 (by decide) (fun c2 => ?_) (fun c2 => ?_)
  · have h := zif c2 h
    refine lv_iload_n hx hb dX5_chosen_9 rfl (lv_at hl 2 rfl) ?_
    refine lv_if_ne (tgt := 17) hx hb dX5_chosen_10 (by decide) (fun c1 => ?_) (fun c1 => ?_)
    · have h := zif c1 h
      refine lv_iload_n hx hb dX5_chosen_17 rfl (lv_at hl 1 rfl) ?_
      have hr := (zs h)
      subst hr
      exact hret H locs ls 18 hP hS dX5_chosen_18
    · have h := zit c1 h
      refine lv_iload_n hx hb dX5_chosen_13 rfl (lv_at hl 0 rfl) ?_
      refine lv_goto (tgt := 18) hx hb dX5_chosen_14 (by decide) ?_
      have hr := (zs h)
      subst hr
      exact hret H locs ls 18 hP hS dX5_chosen_18
  · have h := zit c2 h
    refine lv_bipush (v := (-4)) hx hb dX5_chosen_6 (by decide) ?_
    have hr := (zs h)
    subst hr
    exact hret H locs ls 8 hP hS dX5_chosen_8
theorem iw_X5_leanAhead_X5 : ∀ w ∈ wsX50, w ∈ wsX5_leanAhead := fun _ h => List.mem_cons_of_mem _ (List.mem_append_left _ (List.mem_append_right _ h))
set_option maxHeartbeats 4000000 in
set_option maxRecDepth 100000 in
theorem c_X5_leanAhead (l : Launch) (G : va_G) (k : Nat → ClassId) (tL tM : Nat) (sK sV : Nat → Nat) (a_x : Nat) (a_L : Nat) (a_T : Nat) (a_x_images : Nat) (a_x_kept : Nat) (a_P : Nat) (a_N : Nat) (a_D : Nat) (a_x_sheets : Nat) (a_x_points : Nat) (a_x_tally : Nat) (a_L_traits : Nat) (a_T_traits : Nat) (sz : Nat) (x_textFault : Int32) (x_readFault : Int32) (L_draws : Int32) (L_foot : Int32) (L_point : Int32) (L_stiff : Int32) (L_bears : Int32) (L_year : Int32) (L_traits : Nat → Int32) (T_draws : Int32) (T_foot : Int32) (T_point : Int32) (T_stiff : Int32) (T_bears : Int32) (T_year : Int32) (T_traits : Nat → Int32) (out : Int32 × Int32 × Int32 × Int32 × Int32 × Int32 × Int32 × (Nat → Int32)) (h : p_X5_leanAhead L_draws L_foot L_point L_stiff L_bears L_year L_traits T_traits = some out) : zMi l yX5_leanAhead wsX5_leanAhead 6 128 G k tL tM sK sV [.ref a_x] [(a_x, .inr (5, [.ref a_L, .ref a_T, .ref a_x_images, .ref a_x_kept, .ref a_P, .ref a_N, .ref a_D, .ref a_x_sheets, .ref a_x_points, .ref a_x_tally, .int x_textFault, .int x_readFault])), (a_L, .inr (4, [.ref a_L_traits, .int L_draws, .int L_foot, .int L_point, .int L_stiff, .int L_bears, .int L_year])), (a_L_traits, .inl (k 0, 20, .inl L_traits)), (a_T, .inr (4, [.ref a_T_traits, .int T_draws, .int T_foot, .int T_point, .int T_stiff, .int T_bears, .int T_year])), (a_T_traits, .inl (k 0, 20, .inl T_traits))] [(a_x, .inr (5, [.ref a_L, .ref a_T, .ref a_x_images, .ref a_x_kept, .ref a_P, .ref a_N, .ref a_D, .ref a_x_sheets, .ref a_x_points, .ref a_x_tally, .int x_textFault, .int x_readFault])), (a_L, .inr (4, [.ref a_L_traits, .int L_draws, .int L_foot, .int L_point, .int L_stiff, .int L_bears, .int L_year])), (a_L_traits, .inl (k 0, 20, .inl L_traits)), (a_T, .inr (4, [.ref a_T_traits, .int out.2.1, .int out.2.2.1, .int out.2.2.2.1, .int out.2.2.2.2.1, .int out.2.2.2.2.2.1, .int out.2.2.2.2.2.2.1])), (a_T_traits, .inl (k 0, 20, .inl out.2.2.2.2.2.2.2))] out.1 sz := by
  refine z_meti (cc := cX5_leanAhead) (maxL := 1) (by decide) rfl (Nat.le_of_ble_eq_true rfl) ?_
  intro p e s m below meth c A Q H locs ls hx hb hml hts hown hA hK hE hret hP hD hS hl
  have hown : s.vm.findClass RX5 = some m.cls := hown
  have hl : lv_has ls 1 [(0, .ref a_x)] := hl
  unfold p_X5_leanAhead at h
  refine lv_aload_n hx hb dX5_leanAhead_0 rfl (lv_at hl 0 rfl) ?_
  refine va_get (D := G) (ci := 5) (v := .ref a_T) (C := RX5) (T := TX5) (N := 12) hx hb hts iw_X5_leanAhead_X5 hown hK hP 0 rfl rfl 1 (by decide) (hts (.fieldLink RX5 16 "SpireLean" "trial" "LSpireLean$Town;") (List.mem_of_getElem? (i := 1) rfl)) (fun _ h9 => h9) rfl dX5_leanAhead_1 ?_
  refine lv_aload_n hx hb dX5_leanAhead_4 rfl (lv_at hl 0 rfl) ?_
  refine va_get (D := G) (ci := 5) (v := .ref a_L) (C := RX5) (T := TX5) (N := 12) hx hb hts iw_X5_leanAhead_X5 hown hK hP 0 rfl rfl 0 (by decide) (hts (.fieldLink RX5 10 "SpireLean" "live" "LSpireLean$Town;") (List.mem_of_getElem? (i := 2) rfl)) (fun _ h9 => h9) rfl dX5_leanAhead_5 ?_
  obtain ⟨o1, hv, h⟩ := zb h
  refine z_gov (w2 := [(a_x, .inr (5, [.ref a_L, .ref a_T, .ref a_x_images, .ref a_x_kept, .ref a_P, .ref a_N, .ref a_D, .ref a_x_sheets, .ref a_x_points, .ref a_x_tally, .int x_textFault, .int x_readFault])), (a_L, .inr (4, [.ref a_L_traits, .int L_draws, .int L_foot, .int L_point, .int L_stiff, .int L_bears, .int L_year])), (a_L_traits, .inl (k 0, 20, .inl L_traits)), (a_T, .inr (4, [.ref a_T_traits, .int o1.1, .int o1.2.1, .int o1.2.2.1, .int o1.2.2.2.1, .int o1.2.2.2.2.1, .int o1.2.2.2.2.2.1])), (a_T_traits, .inl (k 0, 20, .inl o1.2.2.2.2.2.2))]) [3, 4, 1, 2] (va_runVN (As := [.ref a_L]) (rest := []) ⟨hx, hb, hml, hown, hts⟩ (c_X4_copyFrom l G k tL tM sK sV a_T a_T_traits a_L a_L_traits H.size T_draws T_foot T_point T_stiff T_bears T_year T_traits L_draws L_foot L_point L_stiff L_bears L_year L_traits o1 hv) ⟨va_cnB 1 hts gX5_leanAhead_X4_copyFrom_n90 rfl rfl rfl (hE.1 (.methodLinkNest RX5 90 yX4_copyFrom "SpireLean") (List.mem_of_getElem? (i := 35) rfl)) (hts (.initialized RX4) (List.mem_of_getElem? (i := 4) rfl)) (by decide +kernel) ⟨Nat.le_of_ble_eq_true rfl, Nat.le_of_ble_eq_true rfl⟩, (hts (.instanceMethod yX4_copyFrom) (List.mem_of_getElem? (i := 3) rfl)), (hts (.selects RX4 yX4_copyFrom yX4_copyFrom) (List.mem_of_getElem? (i := 5) rfl))⟩ (z_preV (wc := [(a_T, .inr (4, [.ref a_T_traits, .int T_draws, .int T_foot, .int T_point, .int T_stiff, .int T_bears, .int T_year])), (a_T_traits, .inl (k 0, 20, .inl T_traits)), (a_L, .inr (4, [.ref a_L_traits, .int L_draws, .int L_foot, .int L_point, .int L_stiff, .int L_bears, .int L_year])), (a_L_traits, .inl (k 0, 20, .inl L_traits))]) [3, 4, 1, 2] 3 4 hK hE hA hP hD hS (by decide) rfl rfl rfl) rfl rfl hl.1 rfl (lv_room (Nat.le_of_ble_eq_true rfl)) dX5_leanAhead_8 ⟨Nat.le_refl _, Nat.le_refl _⟩) hA hP hD hS rfl rfl rfl rfl (fun H locs hP hD hS => ?_)
  refine lv_aload_n hx hb dX5_leanAhead_11 rfl (lv_at hl 0 rfl) ?_
  refine va_get (D := G) (ci := 5) (v := .ref a_T) (C := RX5) (T := TX5) (N := 12) hx hb hts iw_X5_leanAhead_X5 hown hK hP 0 rfl rfl 1 (by decide) (hts (.fieldLink RX5 16 "SpireLean" "trial" "LSpireLean$Town;") (List.mem_of_getElem? (i := 1) rfl)) (fun _ h9 => h9) rfl dX5_leanAhead_12 ?_
  refine lv_bipush (v := 60) hx hb dX5_leanAhead_15 (by decide) ?_
  obtain ⟨o2, hv, h⟩ := zb h
  refine z_goi (w2 := [(a_x, .inr (5, [.ref a_L, .ref a_T, .ref a_x_images, .ref a_x_kept, .ref a_P, .ref a_N, .ref a_D, .ref a_x_sheets, .ref a_x_points, .ref a_x_tally, .int x_textFault, .int x_readFault])), (a_L, .inr (4, [.ref a_L_traits, .int L_draws, .int L_foot, .int L_point, .int L_stiff, .int L_bears, .int L_year])), (a_L_traits, .inl (k 0, 20, .inl L_traits)), (a_T, .inr (4, [.ref a_T_traits, .int o1.1, .int o1.2.1, .int o2.2.1, .int o1.2.2.2.1, .int o1.2.2.2.2.1, .int o2.2.2])), (a_T_traits, .inl (k 0, 20, .inl o1.2.2.2.2.2.2))]) [3, 4] (va_runVN (As := [.int (60 : Int32)]) (rest := []) ⟨hx, hb, hml, hown, hts⟩ (c_X4_greatestLean l G k tL tM sK sV a_T a_T_traits H.size o1.1 o1.2.1 o1.2.2.1 o1.2.2.2.1 o1.2.2.2.2.1 o1.2.2.2.2.2.1 o1.2.2.2.2.2.2 (60 : Int32) o2 hv) ⟨va_cnB 1 hts gX5_leanAhead_X4_greatestLean_n168 rfl rfl rfl (hE.1 (.methodLinkNest RX5 168 yX4_greatestLean "SpireLean") (List.mem_of_getElem? (i := 51) rfl)) (hts (.initialized RX4) (List.mem_of_getElem? (i := 4) rfl)) (by decide +kernel) ⟨Nat.le_of_ble_eq_true rfl, Nat.le_of_ble_eq_true rfl⟩, (hts (.instanceMethod yX4_greatestLean) (List.mem_of_getElem? (i := 18) rfl)), (hts (.selects RX4 yX4_greatestLean yX4_greatestLean) (List.mem_of_getElem? (i := 19) rfl))⟩ (z_preV (wc := [(a_T, .inr (4, [.ref a_T_traits, .int o1.1, .int o1.2.1, .int o1.2.2.1, .int o1.2.2.2.1, .int o1.2.2.2.2.1, .int o1.2.2.2.2.2.1])), (a_T_traits, .inl (k 0, 20, .inl o1.2.2.2.2.2.2))]) [3, 4] 3 4 hK hE hA hP hD hS (by decide) rfl rfl rfl) rfl rfl hl.1 rfl (lv_room (Nat.le_of_ble_eq_true rfl)) dX5_leanAhead_17 ⟨Nat.le_refl _, Nat.le_refl _⟩) hA hP hD hS rfl rfl rfl rfl (fun H locs hP hD hS => ?_)
  have hr := (zs h)
  subst hr
  exact hret H locs ls 20 hP hS dX5_leanAhead_20
theorem iw_X5_fittingBits_X5 : ∀ w ∈ wsX50, w ∈ wsX5_fittingBits := fun _ h => List.mem_cons_of_mem _ (List.mem_append_left _ (List.mem_append_left _ (List.mem_append_right _ h)))
set_option maxHeartbeats 4000000 in
set_option maxRecDepth 100000 in
theorem c_X5_fittingBits (l : Launch) (G : va_G) (k : Nat → ClassId) (tL tM : Nat) (sK sV : Nat → Nat) (a_x : Nat) (a_L : Nat) (a_T : Nat) (a_x_images : Nat) (a_x_kept : Nat) (a_P : Nat) (a_N : Nat) (a_D : Nat) (a_x_sheets : Nat) (a_x_points : Nat) (a_x_tally : Nat) (a_L_traits : Nat) (a_T_traits : Nat) (a_N_years : Nat) (a_N_cells : Nat) (sz : Nat) (x_textFault : Int32) (x_readFault : Int32) (L_draws : Int32) (L_foot : Int32) (L_point : Int32) (L_stiff : Int32) (L_bears : Int32) (L_year : Int32) (L_traits : Nat → Int32) (T_draws : Int32) (T_foot : Int32) (T_point : Int32) (T_stiff : Int32) (T_bears : Int32) (T_year : Int32) (T_traits : Nat → Int32) (N_size : Int32) (N_years : Nat → Int32) (N_cells : Nat → Int32) (u1 : Int32) (u2 : Int32) (out : Int32 × Int32 × Int32 × Int32 × Int32 × Int32 × Int32 × (Nat → Int32)) (h : p_X5_fittingBits u1 u2 L_draws L_foot L_point L_stiff L_bears L_year L_traits T_draws T_foot T_point T_stiff T_bears T_year T_traits N_size N_years N_cells = some out) : zMi l yX5_fittingBits wsX5_fittingBits 6 128 G k tL tM sK sV [.ref a_x, .int u1, .int u2] [(a_x, .inr (5, [.ref a_L, .ref a_T, .ref a_x_images, .ref a_x_kept, .ref a_P, .ref a_N, .ref a_D, .ref a_x_sheets, .ref a_x_points, .ref a_x_tally, .int x_textFault, .int x_readFault])), (a_L, .inr (4, [.ref a_L_traits, .int L_draws, .int L_foot, .int L_point, .int L_stiff, .int L_bears, .int L_year])), (a_L_traits, .inl (k 0, 20, .inl L_traits)), (a_T, .inr (4, [.ref a_T_traits, .int T_draws, .int T_foot, .int T_point, .int T_stiff, .int T_bears, .int T_year])), (a_T_traits, .inl (k 0, 20, .inl T_traits)), (a_N, .inr (2, [.ref a_N_years, .ref a_N_cells, .int N_size])), (a_N_years, .inl (k 0, 6, .inl N_years)), (a_N_cells, .inl (k 0, 6, .inl N_cells))] [(a_x, .inr (5, [.ref a_L, .ref a_T, .ref a_x_images, .ref a_x_kept, .ref a_P, .ref a_N, .ref a_D, .ref a_x_sheets, .ref a_x_points, .ref a_x_tally, .int x_textFault, .int x_readFault])), (a_L, .inr (4, [.ref a_L_traits, .int L_draws, .int L_foot, .int L_point, .int L_stiff, .int L_bears, .int L_year])), (a_L_traits, .inl (k 0, 20, .inl L_traits)), (a_T, .inr (4, [.ref a_T_traits, .int out.2.1, .int out.2.2.1, .int out.2.2.2.1, .int out.2.2.2.2.1, .int out.2.2.2.2.2.1, .int out.2.2.2.2.2.2.1])), (a_T_traits, .inl (k 0, 20, .inl out.2.2.2.2.2.2.2)), (a_N, .inr (2, [.ref a_N_years, .ref a_N_cells, .int N_size])), (a_N_years, .inl (k 0, 6, .inl N_years)), (a_N_cells, .inl (k 0, 6, .inl N_cells))] out.1 sz := by
  refine z_meti (cc := cX5_fittingBits) (maxL := 5) (by decide) rfl (Nat.le_of_ble_eq_true rfl) ?_
  intro p e s m below meth c A Q H locs ls hx hb hml hts hown hA hK hE hret hP hD hS hl
  have hown : s.vm.findClass RX5 = some m.cls := hown
  have hl : lv_has ls 5 [(0, .ref a_x), (1, .int u1), (2, .int u2)] := hl
  unfold p_X5_fittingBits at h
  refine lv_iconst (v := 0) hx hb dX5_fittingBits_0 (by decide) ?_
  refine lv_istore_n (lv' := [(3, .int (0 : Int32)), (0, .ref a_x), (1, .int u1), (2, .int u2)]) hx hb dX5_fittingBits_1 rfl hl (by decide) rfl (fun ls hl => ?_)
  refine va_gets (C := "SpireLean") hx hb hE.2.1 hS hown (hts (.fieldLink RX5 198 "SpireLean" "LEAST" "[I") (List.mem_of_getElem? (i := 1) rfl)) (fun _ h9 => h9) dX5_fittingBits_2 ?_
  refine lv_iload_n hx hb dX5_fittingBits_5 rfl (lv_at hl 3 rfl) ?_
  obtain ⟨v1, hv, h⟩ := zb h
  refine z_sti hx hb hE.2.2.2.1 hS hv dX5_fittingBits_6 ?_
  refine lv_istore (lv' := [(4, .int v1), (3, .int (0 : Int32)), (0, .ref a_x), (1, .int u1), (2, .int u2)]) hx hb dX5_fittingBits_7 hl (by decide) rfl (fun ls hl => ?_)
  obtain ⟨e6, hv, h⟩ := zb h
  have hJ5 : ∀ (e6_ : Int32 × Int32 × Int32 × Int32 × Int32 × Int32 × Int32 × (Nat → Int32)), e6_ = e6 → zW p l e (zR 6 128) s m ([.ref a_x, .int u1, .int u2] : List Value).toArray below meth c Q 5 A G [(a_x, .inr (5, [.ref a_L, .ref a_T, .ref a_x_images, .ref a_x_kept, .ref a_P, .ref a_N, .ref a_D, .ref a_x_sheets, .ref a_x_points, .ref a_x_tally, .int x_textFault, .int x_readFault])), (a_L, .inr (4, [.ref a_L_traits, .int L_draws, .int L_foot, .int L_point, .int L_stiff, .int L_bears, .int L_year])), (a_L_traits, .inl (k 0, 20, .inl L_traits)), (a_T, .inr (4, [.ref a_T_traits, .int e6_.2.1, .int e6_.2.2.1, .int e6_.2.2.2.1, .int e6_.2.2.2.2.1, .int e6_.2.2.2.2.2.1, .int e6_.2.2.2.2.2.2.1])), (a_T_traits, .inl (k 0, 20, .inl e6_.2.2.2.2.2.2.2)), (a_N, .inr (2, [.ref a_N_years, .ref a_N_cells, .int N_size])), (a_N_years, .inl (k 0, 6, .inl N_years)), (a_N_cells, .inl (k 0, 6, .inl N_cells))] [(3, .int e6_.1)] 54 [] := by
    intro e6_ hz
    subst hz
    intro H locs ls hP hD hS hl
    refine lv_iload_n hx hb dX5_fittingBits_54 rfl (lv_at hl 0 rfl) ?_
    have hr := (zs h)
    subst hr
    exact hret H locs ls 55 hP hS dX5_fittingBits_55
  refine z_lpW (Wh := fun (x2 : Int32 × Int32 × Int32 × Int32 × Int32 × Int32 × Int32 × Int32 × (Nat → Int32)) => zW p l e (zR 6 128) s m ([.ref a_x, .int u1, .int u2] : List Value).toArray below meth c Q 5 A G [(a_x, .inr (5, [.ref a_L, .ref a_T, .ref a_x_images, .ref a_x_kept, .ref a_P, .ref a_N, .ref a_D, .ref a_x_sheets, .ref a_x_points, .ref a_x_tally, .int x_textFault, .int x_readFault])), (a_L, .inr (4, [.ref a_L_traits, .int L_draws, .int L_foot, .int L_point, .int L_stiff, .int L_bears, .int L_year])), (a_L_traits, .inl (k 0, 20, .inl L_traits)), (a_T, .inr (4, [.ref a_T_traits, .int x2.2.2.1, .int x2.2.2.2.1, .int x2.2.2.2.2.1, .int x2.2.2.2.2.2.1, .int x2.2.2.2.2.2.2.1, .int x2.2.2.2.2.2.2.2.1])), (a_T_traits, .inl (k 0, 20, .inl x2.2.2.2.2.2.2.2.2)), (a_N, .inr (2, [.ref a_N_years, .ref a_N_cells, .int N_size])), (a_N_years, .inl (k 0, 6, .inl N_years)), (a_N_cells, .inl (k 0, 6, .inl N_cells))] [(0, .ref a_x), (1, .int u1), (2, .int u2), (3, .int x2.1), (4, .int x2.2.1)] 9 []) ?_ 1000 _ hv H locs ls hP hD hS (lv_sub hl [2, 3, 4, 1, 0] rfl)
  clear h
  intro x2 o h hC3 hX4 H locs ls hP hD hS hl
  unfold p_X5_fittingBits_b9 at h
  refine lv_iload hx hb dX5_fittingBits_9 (lv_at hl 4 rfl) ?_
  refine va_gets (C := "SpireLean") hx hb hE.2.2.1 hS hown (hts (.fieldLink RX5 201 "SpireLean" "MOST" "[I") (List.mem_of_getElem? (i := 2) rfl)) (fun _ h9 => h9) dX5_fittingBits_11 ?_
  refine lv_iload_n hx hb dX5_fittingBits_14 rfl (lv_at hl 2 rfl) ?_
  obtain ⟨v8, hv, h⟩ := zb h
  refine z_sti hx hb hE.2.2.2.2.1 hS hv dX5_fittingBits_15 ?_
  refine lv_icmp_gt (tgt := 54) hx hb dX5_fittingBits_16 (by decide) (fun c12 => ?_) (fun c12 => ?_)
  · have h := zit c12 h
    exact hJ5 _ (hX4 _ (zs h)) H locs ls hP hD hS (lv_sub hl [3] rfl)
  · have h := zif c12 h
    refine lv_aload_n hx hb dX5_fittingBits_19 rfl (lv_at hl 0 rfl) ?_
    refine lv_iload_n hx hb dX5_fittingBits_20 rfl (lv_at hl 1 rfl) ?_
    refine lv_iload_n hx hb dX5_fittingBits_21 rfl (lv_at hl 2 rfl) ?_
    refine lv_iload hx hb dX5_fittingBits_22 (lv_at hl 4 rfl) ?_
    obtain ⟨o9, hv, h⟩ := zb h
    refine z_gov (w2 := [(a_x, .inr (5, [.ref a_L, .ref a_T, .ref a_x_images, .ref a_x_kept, .ref a_P, .ref a_N, .ref a_D, .ref a_x_sheets, .ref a_x_points, .ref a_x_tally, .int x_textFault, .int x_readFault])), (a_L, .inr (4, [.ref a_L_traits, .int L_draws, .int L_foot, .int L_point, .int L_stiff, .int L_bears, .int L_year])), (a_L_traits, .inl (k 0, 20, .inl L_traits)), (a_T, .inr (4, [.ref a_T_traits, .int o9.1, .int o9.2.1, .int o9.2.2.1, .int o9.2.2.2.1, .int o9.2.2.2.2.1, .int o9.2.2.2.2.2.1])), (a_T_traits, .inl (k 0, 20, .inl o9.2.2.2.2.2.2)), (a_N, .inr (2, [.ref a_N_years, .ref a_N_cells, .int N_size])), (a_N_years, .inl (k 0, 6, .inl N_years)), (a_N_cells, .inl (k 0, 6, .inl N_cells))]) [0, 1, 2, 3, 4] (va_runV (As := [.int u1, .int u2, .int x2.2.1]) (rest := []) ⟨hx, hb, hml, hown, hts⟩ (c_X5_suppose l G k tL tM sK sV a_x a_L a_T a_x_images a_x_kept a_P a_N a_D a_x_sheets a_x_points a_x_tally a_L_traits a_T_traits H.size x_textFault x_readFault L_draws L_foot L_point L_stiff L_bears L_year L_traits x2.2.2.1 x2.2.2.2.1 x2.2.2.2.2.1 x2.2.2.2.2.2.1 x2.2.2.2.2.2.2.1 x2.2.2.2.2.2.2.2.1 x2.2.2.2.2.2.2.2.2 u1 u2 x2.2.1 o9 hv) (cwV 3 hts gX5_fittingBits_X5_suppose rfl rfl rfl (by decide +kernel) ⟨Nat.le_of_ble_eq_true rfl, Nat.le_of_ble_eq_true rfl⟩) (z_preV (wc := [(a_x, .inr (5, [.ref a_L, .ref a_T, .ref a_x_images, .ref a_x_kept, .ref a_P, .ref a_N, .ref a_D, .ref a_x_sheets, .ref a_x_points, .ref a_x_tally, .int x_textFault, .int x_readFault])), (a_L, .inr (4, [.ref a_L_traits, .int L_draws, .int L_foot, .int L_point, .int L_stiff, .int L_bears, .int L_year])), (a_L_traits, .inl (k 0, 20, .inl L_traits)), (a_T, .inr (4, [.ref a_T_traits, .int x2.2.2.1, .int x2.2.2.2.1, .int x2.2.2.2.2.1, .int x2.2.2.2.2.2.1, .int x2.2.2.2.2.2.2.1, .int x2.2.2.2.2.2.2.2.1])), (a_T_traits, .inl (k 0, 20, .inl x2.2.2.2.2.2.2.2.2))]) [0, 1, 2, 3, 4] 0 5 hK hE hA hP hD hS (by decide) rfl rfl rfl) rfl rfl hl.1 rfl (lv_room (Nat.le_of_ble_eq_true rfl)) dX5_fittingBits_24 ⟨Nat.le_refl _, Nat.le_refl _⟩) hA hP hD hS rfl rfl rfl rfl (fun H locs hP hD hS => ?_)
    refine lv_aload_n hx hb dX5_fittingBits_27 rfl (lv_at hl 0 rfl) ?_
    refine va_get (D := G) (ci := 5) (v := .ref a_N) (C := RX5) (T := TX5) (N := 12) hx hb hts iw_X5_fittingBits_X5 hown hK hP 0 rfl rfl 5 (by decide) (hts (.fieldLink RX5 37 "SpireLean" "seen" "LSpireLean$Sightings;") (List.mem_of_getElem? (i := 3) rfl)) (fun _ h9 => h9) rfl dX5_fittingBits_28 ?_
    refine lv_aload_n hx hb dX5_fittingBits_31 rfl (lv_at hl 0 rfl) ?_
    refine va_get (D := G) (ci := 5) (v := .ref a_T) (C := RX5) (T := TX5) (N := 12) hx hb hts iw_X5_fittingBits_X5 hown hK hP 0 rfl rfl 1 (by decide) (hts (.fieldLink RX5 16 "SpireLean" "trial" "LSpireLean$Town;") (List.mem_of_getElem? (i := 4) rfl)) (fun _ h9 => h9) rfl dX5_fittingBits_32 ?_
    obtain ⟨o10, hv, h⟩ := zb h
    refine z_goi (w2 := [(a_x, .inr (5, [.ref a_L, .ref a_T, .ref a_x_images, .ref a_x_kept, .ref a_P, .ref a_N, .ref a_D, .ref a_x_sheets, .ref a_x_points, .ref a_x_tally, .int x_textFault, .int x_readFault])), (a_L, .inr (4, [.ref a_L_traits, .int L_draws, .int L_foot, .int L_point, .int L_stiff, .int L_bears, .int L_year])), (a_L_traits, .inl (k 0, 20, .inl L_traits)), (a_T, .inr (4, [.ref a_T_traits, .int o9.1, .int o9.2.1, .int o10.2.1, .int o9.2.2.2.1, .int o9.2.2.2.2.1, .int o10.2.2])), (a_T_traits, .inl (k 0, 20, .inl o9.2.2.2.2.2.2)), (a_N, .inr (2, [.ref a_N_years, .ref a_N_cells, .int N_size])), (a_N_years, .inl (k 0, 6, .inl N_years)), (a_N_cells, .inl (k 0, 6, .inl N_cells))]) [5, 6, 7, 3, 4] (va_runVN (As := [.ref a_T]) (rest := []) ⟨hx, hb, hml, hown, hts⟩ (c_X2_fits l G k tL tM sK sV a_N a_N_years a_N_cells a_T a_T_traits H.size N_size N_years N_cells o9.1 o9.2.1 o9.2.2.1 o9.2.2.2.1 o9.2.2.2.2.1 o9.2.2.2.2.2.1 o9.2.2.2.2.2.2 o10 hv) ⟨va_cnB 1 hts gX5_fittingBits_X2_fits_n237 rfl rfl rfl (hE.1 (.methodLinkNest RX5 237 yX2_fits "SpireLean") (List.mem_of_getElem? (i := 64) rfl)) (hts (.initialized RX2) (List.mem_of_getElem? (i := 30) rfl)) (by decide +kernel) ⟨Nat.le_of_ble_eq_true rfl, Nat.le_of_ble_eq_true rfl⟩, (hts (.instanceMethod yX2_fits) (List.mem_of_getElem? (i := 29) rfl)), (hts (.selects RX2 yX2_fits yX2_fits) (List.mem_of_getElem? (i := 31) rfl))⟩ (z_preV (wc := [(a_N, .inr (2, [.ref a_N_years, .ref a_N_cells, .int N_size])), (a_N_years, .inl (k 0, 6, .inl N_years)), (a_N_cells, .inl (k 0, 6, .inl N_cells)), (a_T, .inr (4, [.ref a_T_traits, .int o9.1, .int o9.2.1, .int o9.2.2.1, .int o9.2.2.2.1, .int o9.2.2.2.2.1, .int o9.2.2.2.2.2.1])), (a_T_traits, .inl (k 0, 20, .inl o9.2.2.2.2.2.2))]) [5, 6, 7, 3, 4] 5 2 hK hE hA hP hD hS (by decide) rfl rfl rfl) rfl rfl hl.1 rfl (lv_room (Nat.le_of_ble_eq_true rfl)) dX5_fittingBits_35 ⟨Nat.le_refl _, Nat.le_refl _⟩) hA hP hD hS rfl rfl rfl rfl (fun H locs hP hD hS => ?_)
    refine lv_if_eq (tgt := 48) hx hb dX5_fittingBits_38 (by decide) (fun c11 => ?_) (fun c11 => ?_)
    · have h := zit c11 h
      refine lv_iinc (v := x2.2.1 + (1 : Int32)) (lv' := [(4, .int (x2.2.1 + (1 : Int32))), (0, .ref a_x), (1, .int u1), (2, .int u2), (3, .int x2.1)]) hx hb dX5_fittingBits_48 hl (k := 4) rfl rfl (by decide) rfl (fun ls hl => ?_)
      refine lv_goto (tgt := 9) hx hb dX5_fittingBits_51 (by decide) ?_
      exact hC3 _ (zs h) H locs ls hP hD hS (lv_sub hl [1, 2, 3, 4, 0] rfl)
    · have h := zif c11 h
      refine lv_iload_n hx hb dX5_fittingBits_41 rfl (lv_at hl 3 rfl) ?_
      refine lv_iconst (v := 1) hx hb dX5_fittingBits_42 (by decide) ?_
      refine lv_iload hx hb dX5_fittingBits_43 (lv_at hl 4 rfl) ?_
      refine lv_ishl hx hb dX5_fittingBits_45 ?_
      refine lv_ior hx hb dX5_fittingBits_46 ?_
      refine lv_istore_n (lv' := [(3, .int (x2.1 ||| ((1 : Int32) <<< (x2.2.1 &&& 31)))), (0, .ref a_x), (1, .int u1), (2, .int u2), (4, .int x2.2.1)]) hx hb dX5_fittingBits_47 rfl hl (by decide) rfl (fun ls hl => ?_)
      refine lv_iinc (v := x2.2.1 + (1 : Int32)) (lv' := [(4, .int (x2.2.1 + (1 : Int32))), (3, .int (x2.1 ||| ((1 : Int32) <<< (x2.2.1 &&& 31)))), (0, .ref a_x), (1, .int u1), (2, .int u2)]) hx hb dX5_fittingBits_48 hl (k := 4) rfl rfl (by decide) rfl (fun ls hl => ?_)
      refine lv_goto (tgt := 9) hx hb dX5_fittingBits_51 (by decide) ?_
      exact hC3 _ (zs h) H locs ls hP hD hS (lv_sub hl [2, 3, 4, 1, 0] rfl)
theorem iw_X5_gatherPoints_X4 : ∀ w ∈ wsX40, w ∈ wsX5_gatherPoints := fun _ h => List.mem_cons_of_mem _ (List.mem_append_right _ h)
theorem iw_X5_gatherPoints_X5 : ∀ w ∈ wsX50, w ∈ wsX5_gatherPoints := fun _ h => List.mem_cons_of_mem _ (List.mem_append_left _ (List.mem_append_right _ h))
set_option maxHeartbeats 4000000 in
set_option maxRecDepth 100000 in
theorem c_X5_gatherPoints (l : Launch) (G : va_G) (k : Nat → ClassId) (tL tM : Nat) (sK sV : Nat → Nat) (a_x : Nat) (a_L : Nat) (a_T : Nat) (a_x_images : Nat) (a_x_kept : Nat) (a_P : Nat) (a_N : Nat) (a_D : Nat) (a_x_sheets : Nat) (a_x_points : Nat) (a_x_tally : Nat) (a_L_traits : Nat) (a_T_traits : Nat) (sz : Nat) (x_textFault : Int32) (x_readFault : Int32) (L_draws : Int32) (L_foot : Int32) (L_point : Int32) (L_stiff : Int32) (L_bears : Int32) (L_year : Int32) (L_traits : Nat → Int32) (T_draws : Int32) (T_foot : Int32) (T_point : Int32) (T_stiff : Int32) (T_bears : Int32) (T_year : Int32) (T_traits : Nat → Int32) (x_points : Nat → Int32) (out : Int32 × Int32 × Int32 × Int32 × Int32 × Int32 × (Nat → Int32) × (Nat → Int32)) (h : p_X5_gatherPoints L_draws L_foot L_point L_stiff L_bears L_year L_traits T_traits x_points = some out) : zMv l yX5_gatherPoints wsX5_gatherPoints 2 61 G k tL tM sK sV [.ref a_x] [(a_x, .inr (5, [.ref a_L, .ref a_T, .ref a_x_images, .ref a_x_kept, .ref a_P, .ref a_N, .ref a_D, .ref a_x_sheets, .ref a_x_points, .ref a_x_tally, .int x_textFault, .int x_readFault])), (a_L, .inr (4, [.ref a_L_traits, .int L_draws, .int L_foot, .int L_point, .int L_stiff, .int L_bears, .int L_year])), (a_L_traits, .inl (k 0, 20, .inl L_traits)), (a_T, .inr (4, [.ref a_T_traits, .int T_draws, .int T_foot, .int T_point, .int T_stiff, .int T_bears, .int T_year])), (a_T_traits, .inl (k 0, 20, .inl T_traits)), (a_x_points, .inl (k 0, 21, .inl x_points))] [(a_x, .inr (5, [.ref a_L, .ref a_T, .ref a_x_images, .ref a_x_kept, .ref a_P, .ref a_N, .ref a_D, .ref a_x_sheets, .ref a_x_points, .ref a_x_tally, .int x_textFault, .int x_readFault])), (a_L, .inr (4, [.ref a_L_traits, .int L_draws, .int L_foot, .int L_point, .int L_stiff, .int L_bears, .int L_year])), (a_L_traits, .inl (k 0, 20, .inl L_traits)), (a_T, .inr (4, [.ref a_T_traits, .int out.1, .int out.2.1, .int out.2.2.1, .int out.2.2.2.1, .int out.2.2.2.2.1, .int out.2.2.2.2.2.1])), (a_T_traits, .inl (k 0, 20, .inl out.2.2.2.2.2.2.1)), (a_x_points, .inl (k 0, 21, .inl out.2.2.2.2.2.2.2))] sz := by
  refine z_metv (cc := cX5_gatherPoints) (maxL := 2) (by decide) rfl (Nat.le_of_ble_eq_true rfl) ?_
  intro p e s m below meth c A Q H locs ls hx hb hml hts hown hA hK hE hret hP hD hS hl
  have hown : s.vm.findClass RX5 = some m.cls := hown
  have hl : lv_has ls 2 [(0, .ref a_x)] := hl
  unfold p_X5_gatherPoints at h
  refine lv_aload_n hx hb dX5_gatherPoints_0 rfl (lv_at hl 0 rfl) ?_
  refine va_get (D := G) (ci := 5) (v := .ref a_T) (C := RX5) (T := TX5) (N := 12) hx hb hts iw_X5_gatherPoints_X5 hown hK hP 0 rfl rfl 1 (by decide) (hts (.fieldLink RX5 16 "SpireLean" "trial" "LSpireLean$Town;") (List.mem_of_getElem? (i := 1) rfl)) (fun _ h9 => h9) rfl dX5_gatherPoints_1 ?_
  refine lv_aload_n hx hb dX5_gatherPoints_4 rfl (lv_at hl 0 rfl) ?_
  refine va_get (D := G) (ci := 5) (v := .ref a_L) (C := RX5) (T := TX5) (N := 12) hx hb hts iw_X5_gatherPoints_X5 hown hK hP 0 rfl rfl 0 (by decide) (hts (.fieldLink RX5 10 "SpireLean" "live" "LSpireLean$Town;") (List.mem_of_getElem? (i := 2) rfl)) (fun _ h9 => h9) rfl dX5_gatherPoints_5 ?_
  obtain ⟨o1, hv, h⟩ := zb h
  refine z_gov (w2 := [(a_x, .inr (5, [.ref a_L, .ref a_T, .ref a_x_images, .ref a_x_kept, .ref a_P, .ref a_N, .ref a_D, .ref a_x_sheets, .ref a_x_points, .ref a_x_tally, .int x_textFault, .int x_readFault])), (a_L, .inr (4, [.ref a_L_traits, .int L_draws, .int L_foot, .int L_point, .int L_stiff, .int L_bears, .int L_year])), (a_L_traits, .inl (k 0, 20, .inl L_traits)), (a_T, .inr (4, [.ref a_T_traits, .int o1.1, .int o1.2.1, .int o1.2.2.1, .int o1.2.2.2.1, .int o1.2.2.2.2.1, .int o1.2.2.2.2.2.1])), (a_T_traits, .inl (k 0, 20, .inl o1.2.2.2.2.2.2)), (a_x_points, .inl (k 0, 21, .inl x_points))]) [3, 4, 1, 2] (va_runVN (As := [.ref a_L]) (rest := []) ⟨hx, hb, hml, hown, hts⟩ (c_X4_copyFrom l G k tL tM sK sV a_T a_T_traits a_L a_L_traits H.size T_draws T_foot T_point T_stiff T_bears T_year T_traits L_draws L_foot L_point L_stiff L_bears L_year L_traits o1 hv) ⟨va_cnB 1 hts gX5_gatherPoints_X4_copyFrom_n90 rfl rfl rfl (hE.1 (.methodLinkNest RX5 90 yX4_copyFrom "SpireLean") (List.mem_of_getElem? (i := 35) rfl)) (hts (.initialized RX4) (List.mem_of_getElem? (i := 7) rfl)) (by decide +kernel) ⟨Nat.le_of_ble_eq_true rfl, Nat.le_of_ble_eq_true rfl⟩, (hts (.instanceMethod yX4_copyFrom) (List.mem_of_getElem? (i := 6) rfl)), (hts (.selects RX4 yX4_copyFrom yX4_copyFrom) (List.mem_of_getElem? (i := 8) rfl))⟩ (z_preV (wc := [(a_T, .inr (4, [.ref a_T_traits, .int T_draws, .int T_foot, .int T_point, .int T_stiff, .int T_bears, .int T_year])), (a_T_traits, .inl (k 0, 20, .inl T_traits)), (a_L, .inr (4, [.ref a_L_traits, .int L_draws, .int L_foot, .int L_point, .int L_stiff, .int L_bears, .int L_year])), (a_L_traits, .inl (k 0, 20, .inl L_traits))]) [3, 4, 1, 2] 3 4 hK hE hA hP hD hS (by decide) rfl rfl rfl) rfl rfl hl.1 rfl (lv_room (Nat.le_of_ble_eq_true rfl)) dX5_gatherPoints_8 ⟨Nat.le_refl _, Nat.le_refl _⟩) hA hP hD hS rfl rfl rfl rfl (fun H locs hP hD hS => ?_)
  refine va_gets (C := "SpireLean") hx hb hE.2.1 hS hown (hts (.fieldLink RX5 198 "SpireLean" "LEAST" "[I") (List.mem_of_getElem? (i := 3) rfl)) (fun _ h9 => h9) dX5_gatherPoints_11 ?_
  refine lv_iconst (v := 1) hx hb dX5_gatherPoints_14 (by decide) ?_
  obtain ⟨v2, hv, h⟩ := zb h
  refine z_sti hx hb hE.2.2.2.1 hS hv dX5_gatherPoints_15 ?_
  refine lv_istore_n (lv' := [(1, .int v2), (0, .ref a_x)]) hx hb dX5_gatherPoints_16 rfl hl (by decide) rfl (fun ls hl => ?_)
  obtain ⟨e7, hv, h⟩ := zb h
  have hJ6 : ∀ (e7_ : (Nat → Int32)), e7_ = e7 → zW p l e (zR 2 61) s m ([.ref a_x] : List Value).toArray below meth c Q 2 A G [(a_x, .inr (5, [.ref a_L, .ref a_T, .ref a_x_images, .ref a_x_kept, .ref a_P, .ref a_N, .ref a_D, .ref a_x_sheets, .ref a_x_points, .ref a_x_tally, .int x_textFault, .int x_readFault])), (a_L, .inr (4, [.ref a_L_traits, .int L_draws, .int L_foot, .int L_point, .int L_stiff, .int L_bears, .int L_year])), (a_L_traits, .inl (k 0, 20, .inl L_traits)), (a_T, .inr (4, [.ref a_T_traits, .int o1.1, .int o1.2.1, .int o1.2.2.1, .int o1.2.2.2.1, .int o1.2.2.2.2.1, .int o1.2.2.2.2.2.1])), (a_T_traits, .inl (k 0, 20, .inl o1.2.2.2.2.2.2)), (a_x_points, .inl (k 0, 21, .inl e7_))] [] 45 [] := by
    intro e7_ hz
    subst hz
    intro H locs ls hP hD hS hl
    have hr := (zs h)
    subst hr
    exact hret H locs ls 45 hP hS dX5_gatherPoints_45
  refine z_lpW (Wh := fun (x3 : Int32 × (Nat → Int32)) => zW p l e (zR 2 61) s m ([.ref a_x] : List Value).toArray below meth c Q 2 A G [(a_x, .inr (5, [.ref a_L, .ref a_T, .ref a_x_images, .ref a_x_kept, .ref a_P, .ref a_N, .ref a_D, .ref a_x_sheets, .ref a_x_points, .ref a_x_tally, .int x_textFault, .int x_readFault])), (a_L, .inr (4, [.ref a_L_traits, .int L_draws, .int L_foot, .int L_point, .int L_stiff, .int L_bears, .int L_year])), (a_L_traits, .inl (k 0, 20, .inl L_traits)), (a_T, .inr (4, [.ref a_T_traits, .int o1.1, .int o1.2.1, .int o1.2.2.1, .int o1.2.2.2.1, .int o1.2.2.2.2.1, .int o1.2.2.2.2.2.1])), (a_T_traits, .inl (k 0, 20, .inl o1.2.2.2.2.2.2)), (a_x_points, .inl (k 0, 21, .inl x3.2))] [(0, .ref a_x), (1, .int x3.1)] 17 []) ?_ 1000 _ hv H locs ls hP hD hS (lv_sub hl [1, 0] rfl)
  clear h
  intro x3 o h hC4 hX5 H locs ls hP hD hS hl
  unfold p_X5_gatherPoints_b17 at h
  refine lv_iload_n hx hb dX5_gatherPoints_17 rfl (lv_at hl 1 rfl) ?_
  refine va_gets (C := "SpireLean") hx hb hE.2.2.1 hS hown (hts (.fieldLink RX5 201 "SpireLean" "MOST" "[I") (List.mem_of_getElem? (i := 4) rfl)) (fun _ h9 => h9) dX5_gatherPoints_18 ?_
  refine lv_iconst (v := 1) hx hb dX5_gatherPoints_21 (by decide) ?_
  obtain ⟨v9, hv, h⟩ := zb h
  refine z_sti hx hb hE.2.2.2.2.1 hS hv dX5_gatherPoints_22 ?_
  refine lv_icmp_gt (tgt := 45) hx hb dX5_gatherPoints_23 (by decide) (fun c11 => ?_) (fun c11 => ?_)
  · have h := zit c11 h
    exact hJ6 _ (hX5 _ (zs h)) H locs ls hP hD hS (lv_sub hl [] rfl)
  · have h := zif c11 h
    refine lv_aload_n hx hb dX5_gatherPoints_26 rfl (lv_at hl 0 rfl) ?_
    refine va_get (D := G) (ci := 5) (v := .ref a_x_points) (C := RX5) (T := TX5) (N := 12) hx hb hts iw_X5_gatherPoints_X5 hown hK hP 0 rfl rfl 8 (by decide) (hts (.fieldLink RX5 54 "SpireLean" "points" "[I") (List.mem_of_getElem? (i := 5) rfl)) (fun _ h9 => h9) rfl dX5_gatherPoints_27 ?_
    refine lv_iload_n hx hb dX5_gatherPoints_30 rfl (lv_at hl 1 rfl) ?_
    refine lv_aload_n hx hb dX5_gatherPoints_31 rfl (lv_at hl 0 rfl) ?_
    refine va_get (D := G) (ci := 5) (v := .ref a_L) (C := RX5) (T := TX5) (N := 12) hx hb hts iw_X5_gatherPoints_X5 hown hK hP 0 rfl rfl 0 (by decide) (hts (.fieldLink RX5 10 "SpireLean" "live" "LSpireLean$Town;") (List.mem_of_getElem? (i := 2) rfl)) (fun _ h9 => h9) rfl dX5_gatherPoints_32 ?_
    refine va_getN (D := G) (ci := 4) (v := .int L_point) (C := RX4) (T := TX4) (N := 7) hx hb hts iw_X5_gatherPoints_X4 hown hK hP 1 rfl rfl 3 (by decide) (va_Nw.use rfl (hE.1 (.fieldLinkNest RX5 106 "SpireLean$Town" "point" "I" "SpireLean") (List.mem_of_getElem? (i := 6) rfl))) (fun _ h9 => h9) rfl dX5_gatherPoints_35 ?_
    obtain ⟨v10, hv, h⟩ := zb h
    refine z_iast hx hb hK hP hD hS 5 0 rfl rfl hv dX5_gatherPoints_38 (fun H locs hP hD hS => ?_)
    have hP : va_P G vwCl [(a_x, .inr (5, [.ref a_L, .ref a_T, .ref a_x_images, .ref a_x_kept, .ref a_P, .ref a_N, .ref a_D, .ref a_x_sheets, .ref a_x_points, .ref a_x_tally, .int x_textFault, .int x_readFault])), (a_L, .inr (4, [.ref a_L_traits, .int L_draws, .int L_foot, .int L_point, .int L_stiff, .int L_bears, .int L_year])), (a_L_traits, .inl (k 0, 20, .inl L_traits)), (a_T, .inr (4, [.ref a_T_traits, .int o1.1, .int o1.2.1, .int o1.2.2.1, .int o1.2.2.2.1, .int o1.2.2.2.2.1, .int o1.2.2.2.2.2.1])), (a_T_traits, .inl (k 0, 20, .inl o1.2.2.2.2.2.2)), (a_x_points, .inl (k 0, 21, .inl v10))] H := hP
    have hD : va_D A [(a_x, .inr (5, [.ref a_L, .ref a_T, .ref a_x_images, .ref a_x_kept, .ref a_P, .ref a_N, .ref a_D, .ref a_x_sheets, .ref a_x_points, .ref a_x_tally, .int x_textFault, .int x_readFault])), (a_L, .inr (4, [.ref a_L_traits, .int L_draws, .int L_foot, .int L_point, .int L_stiff, .int L_bears, .int L_year])), (a_L_traits, .inl (k 0, 20, .inl L_traits)), (a_T, .inr (4, [.ref a_T_traits, .int o1.1, .int o1.2.1, .int o1.2.2.1, .int o1.2.2.2.1, .int o1.2.2.2.2.1, .int o1.2.2.2.2.2.1])), (a_T_traits, .inl (k 0, 20, .inl o1.2.2.2.2.2.2)), (a_x_points, .inl (k 0, 21, .inl v10))] := hD
    refine lv_iinc (v := x3.1 + (1 : Int32)) (lv' := [(1, .int (x3.1 + (1 : Int32))), (0, .ref a_x)]) hx hb dX5_gatherPoints_39 hl (k := 1) rfl rfl (by decide) rfl (fun ls hl => ?_)
    refine lv_goto (tgt := 17) hx hb dX5_gatherPoints_42 (by decide) ?_
    exact hC4 _ (zs h) H locs ls hP hD hS (lv_sub hl [1, 0] rfl)
theorem iw_X5_mostLeft_X5 : ∀ w ∈ wsX50, w ∈ wsX5_mostLeft := fun _ h => List.mem_cons_of_mem _ (List.mem_append_right _ h)
set_option maxHeartbeats 4000000 in
set_option maxRecDepth 100000 in
theorem c_X5_mostLeft (l : Launch) (G : va_G) (k : Nat → ClassId) (tL tM : Nat) (sK sV : Nat → Nat) (a_x : Nat) (a_L : Nat) (a_T : Nat) (a_x_images : Nat) (a_x_kept : Nat) (a_P : Nat) (a_N : Nat) (a_D : Nat) (a_x_sheets : Nat) (a_x_points : Nat) (a_x_tally : Nat) (sz : Nat) (x_textFault : Int32) (x_readFault : Int32) (x_tally : Nat → Int32) (x_points : Nat → Int32) (u1 : Int32) (out : Int32 × (Nat → Int32)) (h : p_X5_mostLeft u1 x_tally x_points = some out) : zMi l yX5_mostLeft wsX5_mostLeft 1 30 G k tL tM sK sV [.ref a_x, .int u1] [(a_x, .inr (5, [.ref a_L, .ref a_T, .ref a_x_images, .ref a_x_kept, .ref a_P, .ref a_N, .ref a_D, .ref a_x_sheets, .ref a_x_points, .ref a_x_tally, .int x_textFault, .int x_readFault])), (a_x_tally, .inl (k 0, 100, .inl x_tally)), (a_x_points, .inl (k 0, 21, .inl x_points))] [(a_x, .inr (5, [.ref a_L, .ref a_T, .ref a_x_images, .ref a_x_kept, .ref a_P, .ref a_N, .ref a_D, .ref a_x_sheets, .ref a_x_points, .ref a_x_tally, .int x_textFault, .int x_readFault])), (a_x_tally, .inl (k 0, 100, .inl out.2)), (a_x_points, .inl (k 0, 21, .inl x_points))] out.1 sz := by
  refine z_meti (cc := cX5_mostLeft) (maxL := 5) (by decide) rfl (Nat.le_of_ble_eq_true rfl) ?_
  intro p e s m below meth c A Q H locs ls hx hb hml hts hown hA hK hE hret hP hD hS hl
  have hown : s.vm.findClass RX5 = some m.cls := hown
  have hl : lv_has ls 5 [(0, .ref a_x), (1, .int u1)] := hl
  unfold p_X5_mostLeft at h
  refine lv_iconst (v := 0) hx hb dX5_mostLeft_0 (by decide) ?_
  refine lv_istore_n (lv' := [(2, .int (0 : Int32)), (0, .ref a_x), (1, .int u1)]) hx hb dX5_mostLeft_1 rfl hl (by decide) rfl (fun ls hl => ?_)
  obtain ⟨e5, hv, h⟩ := zb h
  have hJ4 : ∀ (e5_ : (Nat → Int32)), e5_ = e5 → zW p l e (zR 1 30) s m ([.ref a_x, .int u1] : List Value).toArray below meth c Q 5 A G [(a_x, .inr (5, [.ref a_L, .ref a_T, .ref a_x_images, .ref a_x_kept, .ref a_P, .ref a_N, .ref a_D, .ref a_x_sheets, .ref a_x_points, .ref a_x_tally, .int x_textFault, .int x_readFault])), (a_x_tally, .inl (k 0, 100, .inl e5_)), (a_x_points, .inl (k 0, 21, .inl x_points))] [(0, .ref a_x), (1, .int u1)] 21 [] := by
    intro e5_ hz
    subst hz
    intro H locs ls hP hD hS hl
    refine lv_iconst (v := 0) hx hb dX5_mostLeft_21 (by decide) ?_
    refine lv_istore_n (lv' := [(2, .int (0 : Int32)), (0, .ref a_x), (1, .int u1)]) hx hb dX5_mostLeft_22 rfl hl (by decide) rfl (fun ls hl => ?_)
    refine va_gets (C := "SpireLean") hx hb hE.2.1 hS hown (hts (.fieldLink RX5 198 "SpireLean" "LEAST" "[I") (List.mem_of_getElem? (i := 2) rfl)) (fun _ h9 => h9) dX5_mostLeft_23 ?_
    refine lv_iconst (v := 1) hx hb dX5_mostLeft_26 (by decide) ?_
    obtain ⟨v9, hv, h⟩ := zb h
    refine z_sti hx hb hE.2.2.2.1 hS hv dX5_mostLeft_27 ?_
    refine lv_istore_n (lv' := [(3, .int v9), (2, .int (0 : Int32)), (0, .ref a_x), (1, .int u1)]) hx hb dX5_mostLeft_28 rfl hl (by decide) rfl (fun ls hl => ?_)
    obtain ⟨e14, hv, h⟩ := zb h
    have hJ13 : ∀ (e14_ : Int32 × (Nat → Int32)), e14_ = e14 → zW p l e (zR 1 30) s m ([.ref a_x, .int u1] : List Value).toArray below meth c Q 5 A G [(a_x, .inr (5, [.ref a_L, .ref a_T, .ref a_x_images, .ref a_x_kept, .ref a_P, .ref a_N, .ref a_D, .ref a_x_sheets, .ref a_x_points, .ref a_x_tally, .int x_textFault, .int x_readFault])), (a_x_tally, .inl (k 0, 100, .inl e14_.2)), (a_x_points, .inl (k 0, 21, .inl x_points))] [(2, .int e14_.1)] 84 [] := by
      intro e14_ hz
      subst hz
      intro H locs ls hP hD hS hl
      refine lv_iload_n hx hb dX5_mostLeft_84 rfl (lv_at hl 0 rfl) ?_
      have hr := (zs h)
      subst hr
      exact hret H locs ls 85 hP hS dX5_mostLeft_85
    refine z_lpW (Wh := fun (x10 : Int32 × Int32 × (Nat → Int32)) => zW p l e (zR 1 30) s m ([.ref a_x, .int u1] : List Value).toArray below meth c Q 5 A G [(a_x, .inr (5, [.ref a_L, .ref a_T, .ref a_x_images, .ref a_x_kept, .ref a_P, .ref a_N, .ref a_D, .ref a_x_sheets, .ref a_x_points, .ref a_x_tally, .int x_textFault, .int x_readFault])), (a_x_tally, .inl (k 0, 100, .inl x10.2.2)), (a_x_points, .inl (k 0, 21, .inl x_points))] [(0, .ref a_x), (1, .int u1), (2, .int x10.1), (3, .int x10.2.1)] 29 []) ?_ 1000 _ hv H locs ls hP hD hS (lv_sub hl [2, 3, 1, 0] rfl)
    clear h
    intro x10 o h hC11 hX12 H locs ls hP hD hS hl
    unfold p_X5_mostLeft_b29 at h
    refine lv_iload_n hx hb dX5_mostLeft_29 rfl (lv_at hl 3 rfl) ?_
    refine va_gets (C := "SpireLean") hx hb hE.2.2.1 hS hown (hts (.fieldLink RX5 201 "SpireLean" "MOST" "[I") (List.mem_of_getElem? (i := 3) rfl)) (fun _ h9 => h9) dX5_mostLeft_30 ?_
    refine lv_iconst (v := 1) hx hb dX5_mostLeft_33 (by decide) ?_
    obtain ⟨v16, hv, h⟩ := zb h
    refine z_sti hx hb hE.2.2.2.2.1 hS hv dX5_mostLeft_34 ?_
    refine lv_icmp_gt (tgt := 84) hx hb dX5_mostLeft_35 (by decide) (fun c22 => ?_) (fun c22 => ?_)
    · have h := zit c22 h
      exact hJ13 _ (hX12 _ (zs h)) H locs ls hP hD hS (lv_sub hl [2] rfl)
    · have h := zif c22 h
      refine lv_iload_n hx hb dX5_mostLeft_38 rfl (lv_at hl 1 rfl) ?_
      refine lv_iload_n hx hb dX5_mostLeft_39 rfl (lv_at hl 3 rfl) ?_
      refine lv_ishr hx hb dX5_mostLeft_40 ?_
      refine lv_iconst (v := 1) hx hb dX5_mostLeft_41 (by decide) ?_
      refine lv_iand hx hb dX5_mostLeft_42 ?_
      refine lv_iconst (v := 1) hx hb dX5_mostLeft_43 (by decide) ?_
      refine lv_icmp_ne (tgt := 78) hx hb dX5_mostLeft_44 (by decide) (fun c21 => ?_) (fun c21 => ?_)
      · have h := zif c21 h
        refine lv_iinc (v := x10.2.1 + (1 : Int32)) (lv' := [(3, .int (x10.2.1 + (1 : Int32))), (0, .ref a_x), (1, .int u1), (2, .int x10.1)]) hx hb dX5_mostLeft_78 hl (k := 3) rfl rfl (by decide) rfl (fun ls hl => ?_)
        refine lv_goto (tgt := 29) hx hb dX5_mostLeft_81 (by decide) ?_
        exact hC11 _ (zs h) H locs ls hP hD hS (lv_sub hl [1, 2, 3, 0] rfl)
      · have h := zit c21 h
        refine lv_aload_n hx hb dX5_mostLeft_47 rfl (lv_at hl 0 rfl) ?_
        refine va_get (D := G) (ci := 5) (v := .ref a_x_points) (C := RX5) (T := TX5) (N := 12) hx hb hts iw_X5_mostLeft_X5 hown hK hP 0 rfl rfl 8 (by decide) (hts (.fieldLink RX5 54 "SpireLean" "points" "[I") (List.mem_of_getElem? (i := 4) rfl)) (fun _ h9 => h9) rfl dX5_mostLeft_48 ?_
        refine lv_iload_n hx hb dX5_mostLeft_51 rfl (lv_at hl 3 rfl) ?_
        obtain ⟨v17, hv, h⟩ := zb h
        refine z_iald hx hb hK hP 2 0 rfl rfl hv dX5_mostLeft_52 ?_
        refine lv_istore (lv' := [(4, .int v17), (0, .ref a_x), (1, .int u1), (2, .int x10.1), (3, .int x10.2.1)]) hx hb dX5_mostLeft_53 hl (by decide) rfl (fun ls hl => ?_)
        refine lv_aload_n hx hb dX5_mostLeft_55 rfl (lv_at hl 1 rfl) ?_
        refine va_get (D := G) (ci := 5) (v := .ref a_x_tally) (C := RX5) (T := TX5) (N := 12) hx hb hts iw_X5_mostLeft_X5 hown hK hP 0 rfl rfl 9 (by decide) (hts (.fieldLink RX5 58 "SpireLean" "tally" "[I") (List.mem_of_getElem? (i := 1) rfl)) (fun _ h9 => h9) rfl dX5_mostLeft_56 ?_
        refine lv_iload hx hb dX5_mostLeft_59 (lv_at hl 0 rfl) ?_
        refine lv_dup2_11 hx hb dX5_mostLeft_61 rfl rfl ?_
        obtain ⟨v18, hv, h⟩ := zb h
        refine z_iald hx hb hK hP 1 0 rfl rfl hv dX5_mostLeft_62 ?_
        refine lv_iconst (v := 1) hx hb dX5_mostLeft_63 (by decide) ?_
        refine lv_iadd hx hb dX5_mostLeft_64 ?_
        obtain ⟨v19, hv, h⟩ := zb h
        refine z_iast hx hb hK hP hD hS 1 0 rfl rfl hv dX5_mostLeft_65 (fun H locs hP hD hS => ?_)
        have hP : va_P G vwCl [(a_x, .inr (5, [.ref a_L, .ref a_T, .ref a_x_images, .ref a_x_kept, .ref a_P, .ref a_N, .ref a_D, .ref a_x_sheets, .ref a_x_points, .ref a_x_tally, .int x_textFault, .int x_readFault])), (a_x_tally, .inl (k 0, 100, .inl v19)), (a_x_points, .inl (k 0, 21, .inl x_points))] H := hP
        have hD : va_D A [(a_x, .inr (5, [.ref a_L, .ref a_T, .ref a_x_images, .ref a_x_kept, .ref a_P, .ref a_N, .ref a_D, .ref a_x_sheets, .ref a_x_points, .ref a_x_tally, .int x_textFault, .int x_readFault])), (a_x_tally, .inl (k 0, 100, .inl v19)), (a_x_points, .inl (k 0, 21, .inl x_points))] := hD
        refine lv_iload_n hx hb dX5_mostLeft_66 rfl (lv_at hl 3 rfl) ?_
        refine lv_aload_n hx hb dX5_mostLeft_67 rfl (lv_at hl 1 rfl) ?_
        refine va_get (D := G) (ci := 5) (v := .ref a_x_tally) (C := RX5) (T := TX5) (N := 12) hx hb hts iw_X5_mostLeft_X5 hown hK hP 0 rfl rfl 9 (by decide) (hts (.fieldLink RX5 58 "SpireLean" "tally" "[I") (List.mem_of_getElem? (i := 1) rfl)) (fun _ h9 => h9) rfl dX5_mostLeft_68 ?_
        refine lv_iload hx hb dX5_mostLeft_71 (lv_at hl 0 rfl) ?_
        obtain ⟨v20, hv, h⟩ := zb h
        refine z_iald hx hb hK hP 1 0 rfl rfl hv dX5_mostLeft_73 ?_
        refine va_mmax hx hb (hml.trans hl.1.symm) hown (hts (.methodLink RX5 257 Lib.Math.max.name) (List.mem_of_getElem? (i := 5) rfl)) (hts (.static Lib.Math.max.name) (List.mem_of_getElem? (i := 6) rfl)) (hts (.initialized "java/lang/Math") (List.mem_of_getElem? (i := 7) rfl)) (hts (.code Lib.Math.max.name Lib.Math.max.code 2 (some .int)) (List.mem_of_getElem? (i := 8) rfl)) (Nat.le_of_ble_eq_true rfl) (Nat.le_of_ble_eq_true rfl) (Nat.le_refl _) (Nat.le_refl _) dX5_mostLeft_74 ?_
        refine lv_istore_n (lv' := [(2, .int (if x10.1 < v20 then v20 else x10.1)), (4, .int v17), (0, .ref a_x), (1, .int u1), (3, .int x10.2.1)]) hx hb dX5_mostLeft_77 rfl hl (by decide) rfl (fun ls hl => ?_)
        refine lv_iinc (v := x10.2.1 + (1 : Int32)) (lv' := [(3, .int (x10.2.1 + (1 : Int32))), (2, .int (if x10.1 < v20 then v20 else x10.1)), (4, .int v17), (0, .ref a_x), (1, .int u1)]) hx hb dX5_mostLeft_78 hl (k := 4) rfl rfl (by decide) rfl (fun ls hl => ?_)
        refine lv_goto (tgt := 29) hx hb dX5_mostLeft_81 (by decide) ?_
        exact hC11 _ (zs h) H locs ls hP hD hS (lv_sub hl [3, 4, 1, 0] rfl)
  refine z_lpW (Wh := fun (x1 : Int32 × (Nat → Int32)) => zW p l e (zR 1 30) s m ([.ref a_x, .int u1] : List Value).toArray below meth c Q 5 A G [(a_x, .inr (5, [.ref a_L, .ref a_T, .ref a_x_images, .ref a_x_kept, .ref a_P, .ref a_N, .ref a_D, .ref a_x_sheets, .ref a_x_points, .ref a_x_tally, .int x_textFault, .int x_readFault])), (a_x_tally, .inl (k 0, 100, .inl x1.2)), (a_x_points, .inl (k 0, 21, .inl x_points))] [(0, .ref a_x), (1, .int u1), (2, .int x1.1)] 2 []) ?_ 1000 _ hv H locs ls hP hD hS (lv_sub hl [1, 2, 0] rfl)
  clear h
  intro x1 o h hC2 hX3 H locs ls hP hD hS hl
  unfold p_X5_mostLeft_b2 at h
  refine lv_iload_n hx hb dX5_mostLeft_2 rfl (lv_at hl 2 rfl) ?_
  refine lv_bipush (v := 100) hx hb dX5_mostLeft_3 (by decide) ?_
  refine lv_icmp_ge (tgt := 21) hx hb dX5_mostLeft_5 (by decide) (fun c8 => ?_) (fun c8 => ?_)
  · have h := zit c8 h
    exact hJ4 _ (hX3 _ (zs h)) H locs ls hP hD hS (lv_sub hl [0, 1] rfl)
  · have h := zif c8 h
    refine lv_aload_n hx hb dX5_mostLeft_8 rfl (lv_at hl 0 rfl) ?_
    refine va_get (D := G) (ci := 5) (v := .ref a_x_tally) (C := RX5) (T := TX5) (N := 12) hx hb hts iw_X5_mostLeft_X5 hown hK hP 0 rfl rfl 9 (by decide) (hts (.fieldLink RX5 58 "SpireLean" "tally" "[I") (List.mem_of_getElem? (i := 1) rfl)) (fun _ h9 => h9) rfl dX5_mostLeft_9 ?_
    refine lv_iload_n hx hb dX5_mostLeft_12 rfl (lv_at hl 2 rfl) ?_
    refine lv_iconst (v := 0) hx hb dX5_mostLeft_13 (by decide) ?_
    obtain ⟨v7, hv, h⟩ := zb h
    refine z_iast hx hb hK hP hD hS 1 0 rfl rfl hv dX5_mostLeft_14 (fun H locs hP hD hS => ?_)
    have hP : va_P G vwCl [(a_x, .inr (5, [.ref a_L, .ref a_T, .ref a_x_images, .ref a_x_kept, .ref a_P, .ref a_N, .ref a_D, .ref a_x_sheets, .ref a_x_points, .ref a_x_tally, .int x_textFault, .int x_readFault])), (a_x_tally, .inl (k 0, 100, .inl v7)), (a_x_points, .inl (k 0, 21, .inl x_points))] H := hP
    have hD : va_D A [(a_x, .inr (5, [.ref a_L, .ref a_T, .ref a_x_images, .ref a_x_kept, .ref a_P, .ref a_N, .ref a_D, .ref a_x_sheets, .ref a_x_points, .ref a_x_tally, .int x_textFault, .int x_readFault])), (a_x_tally, .inl (k 0, 100, .inl v7)), (a_x_points, .inl (k 0, 21, .inl x_points))] := hD
    refine lv_iinc (v := x1.1 + (1 : Int32)) (lv' := [(2, .int (x1.1 + (1 : Int32))), (0, .ref a_x), (1, .int u1)]) hx hb dX5_mostLeft_15 hl (k := 2) rfl rfl (by decide) rfl (fun ls hl => ?_)
    refine lv_goto (tgt := 2) hx hb dX5_mostLeft_18 (by decide) ?_
    exact hC2 _ (zs h) H locs ls hP hD hS (lv_sub hl [1, 2, 0] rfl)
theorem iw_X5_movePoints_X4 : ∀ w ∈ wsX40, w ∈ wsX5_movePoints := fun _ h => List.mem_cons_of_mem _ (List.mem_append_right _ h)
theorem iw_X5_movePoints_X5 : ∀ w ∈ wsX50, w ∈ wsX5_movePoints := fun _ h => List.mem_cons_of_mem _ (List.mem_append_left _ (List.mem_append_right _ h))
set_option maxHeartbeats 4000000 in
set_option maxRecDepth 100000 in
theorem c_X5_movePoints (l : Launch) (G : va_G) (k : Nat → ClassId) (tL tM : Nat) (sK sV : Nat → Nat) (a_x : Nat) (a_L : Nat) (a_T : Nat) (a_x_images : Nat) (a_x_kept : Nat) (a_P : Nat) (a_N : Nat) (a_D : Nat) (a_x_sheets : Nat) (a_x_points : Nat) (a_x_tally : Nat) (a_T_traits : Nat) (sz : Nat) (x_textFault : Int32) (x_readFault : Int32) (T_draws : Int32) (T_foot : Int32) (T_point : Int32) (T_stiff : Int32) (T_bears : Int32) (T_year : Int32) (T_traits : Nat → Int32) (x_points : Nat → Int32) (u1 : Int32) (u2 : Int32) (out : Int32 × Int32 × (Nat → Int32) × (Nat → Int32)) (h : p_X5_movePoints u1 u2 T_draws T_foot T_point T_stiff T_bears T_year T_traits x_points = some out) : zMv l yX5_movePoints wsX5_movePoints 5 105 G k tL tM sK sV [.ref a_x, .int u1, .int u2] [(a_x, .inr (5, [.ref a_L, .ref a_T, .ref a_x_images, .ref a_x_kept, .ref a_P, .ref a_N, .ref a_D, .ref a_x_sheets, .ref a_x_points, .ref a_x_tally, .int x_textFault, .int x_readFault])), (a_T, .inr (4, [.ref a_T_traits, .int T_draws, .int T_foot, .int T_point, .int T_stiff, .int T_bears, .int T_year])), (a_T_traits, .inl (k 0, 20, .inl T_traits)), (a_x_points, .inl (k 0, 21, .inl x_points))] [(a_x, .inr (5, [.ref a_L, .ref a_T, .ref a_x_images, .ref a_x_kept, .ref a_P, .ref a_N, .ref a_D, .ref a_x_sheets, .ref a_x_points, .ref a_x_tally, .int x_textFault, .int x_readFault])), (a_T, .inr (4, [.ref a_T_traits, .int T_draws, .int T_foot, .int out.1, .int T_stiff, .int T_bears, .int out.2.1])), (a_T_traits, .inl (k 0, 20, .inl out.2.2.1)), (a_x_points, .inl (k 0, 21, .inl out.2.2.2))] sz := by
  refine z_metv (cc := cX5_movePoints) (maxL := 5) (by decide) rfl (Nat.le_of_ble_eq_true rfl) ?_
  intro p e s m below meth c A Q H locs ls hx hb hml hts hown hA hK hE hret hP hD hS hl
  have hown : s.vm.findClass RX5 = some m.cls := hown
  have hl : lv_has ls 5 [(0, .ref a_x), (1, .int u1), (2, .int u2)] := hl
  unfold p_X5_movePoints at h
  refine lv_aload_n hx hb dX5_movePoints_0 rfl (lv_at hl 0 rfl) ?_
  refine va_get (D := G) (ci := 5) (v := .ref a_T) (C := RX5) (T := TX5) (N := 12) hx hb hts iw_X5_movePoints_X5 hown hK hP 0 rfl rfl 1 (by decide) (hts (.fieldLink RX5 16 "SpireLean" "trial" "LSpireLean$Town;") (List.mem_of_getElem? (i := 1) rfl)) (fun _ h9 => h9) rfl dX5_movePoints_1 ?_
  refine va_getN (D := G) (ci := 4) (v := .int T_year) (C := RX4) (T := TX4) (N := 7) hx hb hts iw_X5_movePoints_X4 hown hK hP 1 rfl rfl 6 (by decide) (va_Nw.use rfl (hE.1 (.fieldLinkNest RX5 100 "SpireLean$Town" "year" "I" "SpireLean") (List.mem_of_getElem? (i := 12) rfl))) (fun _ h9 => h9) rfl dX5_movePoints_4 ?_
  refine lv_istore_n (lv' := [(3, .int T_year), (0, .ref a_x), (1, .int u1), (2, .int u2)]) hx hb dX5_movePoints_7 rfl hl (by decide) rfl (fun ls hl => ?_)
  refine va_gets (C := "SpireLean") hx hb hE.2.1 hS hown (hts (.fieldLink RX5 198 "SpireLean" "LEAST" "[I") (List.mem_of_getElem? (i := 2) rfl)) (fun _ h9 => h9) dX5_movePoints_8 ?_
  refine lv_iconst (v := 1) hx hb dX5_movePoints_11 (by decide) ?_
  obtain ⟨v1, hv, h⟩ := zb h
  refine z_sti hx hb hE.2.2.2.1 hS hv dX5_movePoints_12 ?_
  refine lv_istore (lv' := [(4, .int v1), (3, .int T_year), (0, .ref a_x), (1, .int u1), (2, .int u2)]) hx hb dX5_movePoints_13 hl (by decide) rfl (fun ls hl => ?_)
  obtain ⟨e6, hv, h⟩ := zb h
  have hJ5 : ∀ (e6_ : Int32 × Int32 × (Nat → Int32) × (Nat → Int32)), e6_ = e6 → zW p l e (zR 5 105) s m ([.ref a_x, .int u1, .int u2] : List Value).toArray below meth c Q 5 A G [(a_x, .inr (5, [.ref a_L, .ref a_T, .ref a_x_images, .ref a_x_kept, .ref a_P, .ref a_N, .ref a_D, .ref a_x_sheets, .ref a_x_points, .ref a_x_tally, .int x_textFault, .int x_readFault])), (a_T, .inr (4, [.ref a_T_traits, .int T_draws, .int T_foot, .int e6_.1, .int T_stiff, .int T_bears, .int e6_.2.1])), (a_T_traits, .inl (k 0, 20, .inl e6_.2.2.1)), (a_x_points, .inl (k 0, 21, .inl e6_.2.2.2))] [(0, .ref a_x), (3, .int T_year)] 96 [] := by
    intro e6_ hz
    subst hz
    intro H locs ls hP hD hS hl
    refine lv_aload_n hx hb dX5_movePoints_96 rfl (lv_at hl 0 rfl) ?_
    refine va_get (D := G) (ci := 5) (v := .ref a_T) (C := RX5) (T := TX5) (N := 12) hx hb hts iw_X5_movePoints_X5 hown hK hP 0 rfl rfl 1 (by decide) (hts (.fieldLink RX5 16 "SpireLean" "trial" "LSpireLean$Town;") (List.mem_of_getElem? (i := 1) rfl)) (fun _ h9 => h9) rfl dX5_movePoints_97 ?_
    refine lv_iload_n hx hb dX5_movePoints_100 rfl (lv_at hl 1 rfl) ?_
    refine lv_iconst (v := 1) hx hb dX5_movePoints_101 (by decide) ?_
    refine lv_iadd hx hb dX5_movePoints_102 ?_
    refine va_putN (D := G) (ci := 4) (v := .int (T_year + (1 : Int32))) (ty := .int) (C := RX4) (T := TX4) (N := 7) hx hb hts iw_X5_movePoints_X4 tyX4 tyX4_ok nmX4 hown hK hP hD hS 1 rfl rfl 6 (by decide) (va_Nw.use rfl (hE.1 (.fieldLinkNest RX5 100 "SpireLean$Town" "year" "I" "SpireLean") (List.mem_of_getElem? (i := 12) rfl))) (fun _ h9 => h9) rfl (tyX4_ok 6 (by decide)) rfl rfl (Nat.le_of_ble_eq_true rfl) dX5_movePoints_103 (fun H locs hP hD hS => ?_)
    have hP : va_P G vwCl [(a_x, .inr (5, [.ref a_L, .ref a_T, .ref a_x_images, .ref a_x_kept, .ref a_P, .ref a_N, .ref a_D, .ref a_x_sheets, .ref a_x_points, .ref a_x_tally, .int x_textFault, .int x_readFault])), (a_T, .inr (4, [.ref a_T_traits, .int T_draws, .int T_foot, .int e6_.1, .int T_stiff, .int T_bears, .int (T_year + (1 : Int32))])), (a_T_traits, .inl (k 0, 20, .inl e6_.2.2.1)), (a_x_points, .inl (k 0, 21, .inl e6_.2.2.2))] H := hP
    have hD : va_D A [(a_x, .inr (5, [.ref a_L, .ref a_T, .ref a_x_images, .ref a_x_kept, .ref a_P, .ref a_N, .ref a_D, .ref a_x_sheets, .ref a_x_points, .ref a_x_tally, .int x_textFault, .int x_readFault])), (a_T, .inr (4, [.ref a_T_traits, .int T_draws, .int T_foot, .int e6_.1, .int T_stiff, .int T_bears, .int (T_year + (1 : Int32))])), (a_T_traits, .inl (k 0, 20, .inl e6_.2.2.1)), (a_x_points, .inl (k 0, 21, .inl e6_.2.2.2))] := hD
    have hr := (zs h)
    subst hr
    exact hret H locs ls 106 hP hS dX5_movePoints_106
  refine z_lpW (Wh := fun (x2 : Int32 × Int32 × Int32 × (Nat → Int32) × (Nat → Int32)) => zW p l e (zR 5 105) s m ([.ref a_x, .int u1, .int u2] : List Value).toArray below meth c Q 5 A G [(a_x, .inr (5, [.ref a_L, .ref a_T, .ref a_x_images, .ref a_x_kept, .ref a_P, .ref a_N, .ref a_D, .ref a_x_sheets, .ref a_x_points, .ref a_x_tally, .int x_textFault, .int x_readFault])), (a_T, .inr (4, [.ref a_T_traits, .int T_draws, .int T_foot, .int x2.2.1, .int T_stiff, .int T_bears, .int x2.2.2.1])), (a_T_traits, .inl (k 0, 20, .inl x2.2.2.2.1)), (a_x_points, .inl (k 0, 21, .inl x2.2.2.2.2))] [(0, .ref a_x), (1, .int u1), (2, .int u2), (3, .int T_year), (4, .int x2.1)] 15 []) ?_ 1000 _ hv H locs ls hP hD hS (lv_sub hl [2, 3, 4, 1, 0] rfl)
  clear h
  intro x2 o h hC3 hX4 H locs ls hP hD hS hl
  unfold p_X5_movePoints_b15 at h
  refine lv_iload hx hb dX5_movePoints_15 (lv_at hl 4 rfl) ?_
  refine va_gets (C := "SpireLean") hx hb hE.2.2.1 hS hown (hts (.fieldLink RX5 201 "SpireLean" "MOST" "[I") (List.mem_of_getElem? (i := 3) rfl)) (fun _ h9 => h9) dX5_movePoints_17 ?_
  refine lv_iconst (v := 1) hx hb dX5_movePoints_20 (by decide) ?_
  obtain ⟨v8, hv, h⟩ := zb h
  refine z_sti hx hb hE.2.2.2.2.1 hS hv dX5_movePoints_21 ?_
  refine lv_icmp_gt (tgt := 96) hx hb dX5_movePoints_22 (by decide) (fun c14 => ?_) (fun c14 => ?_)
  · have h := zit c14 h
    exact hJ5 _ (hX4 _ (zs h)) H locs ls hP hD hS (lv_sub hl [0, 3] rfl)
  · have h := zif c14 h
    refine lv_iload_n hx hb dX5_movePoints_25 rfl (lv_at hl 2 rfl) ?_
    refine lv_iload hx hb dX5_movePoints_26 (lv_at hl 4 rfl) ?_
    refine lv_ishr hx hb dX5_movePoints_28 ?_
    refine lv_iconst (v := 1) hx hb dX5_movePoints_29 (by decide) ?_
    refine lv_iand hx hb dX5_movePoints_30 ?_
    refine lv_iconst (v := 1) hx hb dX5_movePoints_31 (by decide) ?_
    refine lv_icmp_ne (tgt := 90) hx hb dX5_movePoints_32 (by decide) (fun c13 => ?_) (fun c13 => ?_)
    · have h := zif c13 h
      refine lv_iinc (v := x2.1 + (1 : Int32)) (lv' := [(4, .int (x2.1 + (1 : Int32))), (0, .ref a_x), (1, .int u1), (2, .int u2), (3, .int T_year)]) hx hb dX5_movePoints_90 hl (k := 4) rfl rfl (by decide) rfl (fun ls hl => ?_)
      refine lv_goto (tgt := 15) hx hb dX5_movePoints_93 (by decide) ?_
      exact hC3 _ (zs h) H locs ls hP hD hS (lv_sub hl [1, 2, 3, 4, 0] rfl)
    · have h := zit c13 h
      refine lv_aload_n hx hb dX5_movePoints_35 rfl (lv_at hl 0 rfl) ?_
      refine va_get (D := G) (ci := 5) (v := .ref a_T) (C := RX5) (T := TX5) (N := 12) hx hb hts iw_X5_movePoints_X5 hown hK hP 0 rfl rfl 1 (by decide) (hts (.fieldLink RX5 16 "SpireLean" "trial" "LSpireLean$Town;") (List.mem_of_getElem? (i := 1) rfl)) (fun _ h9 => h9) rfl dX5_movePoints_36 ?_
      refine lv_iload_n hx hb dX5_movePoints_39 rfl (lv_at hl 1 rfl) ?_
      refine lv_iconst (v := 1) hx hb dX5_movePoints_40 (by decide) ?_
      refine lv_iload hx hb dX5_movePoints_41 (lv_at hl 4 rfl) ?_
      obtain ⟨o9, hv, h⟩ := zb h
      refine z_gov (w2 := [(a_x, .inr (5, [.ref a_L, .ref a_T, .ref a_x_images, .ref a_x_kept, .ref a_P, .ref a_N, .ref a_D, .ref a_x_sheets, .ref a_x_points, .ref a_x_tally, .int x_textFault, .int x_readFault])), (a_T, .inr (4, [.ref a_T_traits, .int T_draws, .int T_foot, .int x2.2.1, .int T_stiff, .int T_bears, .int x2.2.2.1])), (a_T_traits, .inl (k 0, 20, .inl o9)), (a_x_points, .inl (k 0, 21, .inl x2.2.2.2.2))]) [1, 2] (va_runVN (As := [.int u1, .int (1 : Int32), .int x2.1]) (rest := []) ⟨hx, hb, hml, hown, hts⟩ (c_X4_setTrait l G k tL tM sK sV a_T a_T_traits H.size T_draws T_foot x2.2.1 T_stiff T_bears x2.2.2.1 x2.2.2.2.1 u1 (1 : Int32) x2.1 o9 hv) ⟨va_cnB 3 hts gX5_movePoints_X4_setTrait_n150 rfl rfl rfl (hE.1 (.methodLinkNest RX5 150 yX4_setTrait "SpireLean") (List.mem_of_getElem? (i := 46) rfl)) (hts (.initialized RX4) (List.mem_of_getElem? (i := 6) rfl)) (by decide +kernel) ⟨Nat.le_of_ble_eq_true rfl, Nat.le_of_ble_eq_true rfl⟩, (hts (.instanceMethod yX4_setTrait) (List.mem_of_getElem? (i := 5) rfl)), (hts (.selects RX4 yX4_setTrait yX4_setTrait) (List.mem_of_getElem? (i := 7) rfl))⟩ (z_preV (wc := [(a_T, .inr (4, [.ref a_T_traits, .int T_draws, .int T_foot, .int x2.2.1, .int T_stiff, .int T_bears, .int x2.2.2.1])), (a_T_traits, .inl (k 0, 20, .inl x2.2.2.2.1))]) [1, 2] 1 4 hK hE hA hP hD hS (by decide) rfl rfl rfl) rfl rfl hl.1 rfl (lv_room (Nat.le_of_ble_eq_true rfl)) dX5_movePoints_43 ⟨Nat.le_refl _, Nat.le_refl _⟩) hA hP hD hS rfl rfl rfl rfl (fun H locs hP hD hS => ?_)
      refine lv_aload_n hx hb dX5_movePoints_46 rfl (lv_at hl 0 rfl) ?_
      refine va_get (D := G) (ci := 5) (v := .ref a_T) (C := RX5) (T := TX5) (N := 12) hx hb hts iw_X5_movePoints_X5 hown hK hP 0 rfl rfl 1 (by decide) (hts (.fieldLink RX5 16 "SpireLean" "trial" "LSpireLean$Town;") (List.mem_of_getElem? (i := 1) rfl)) (fun _ h9 => h9) rfl dX5_movePoints_47 ?_
      refine lv_aload_n hx hb dX5_movePoints_50 rfl (lv_at hl 0 rfl) ?_
      refine va_get (D := G) (ci := 5) (v := .ref a_x_points) (C := RX5) (T := TX5) (N := 12) hx hb hts iw_X5_movePoints_X5 hown hK hP 0 rfl rfl 8 (by decide) (hts (.fieldLink RX5 54 "SpireLean" "points" "[I") (List.mem_of_getElem? (i := 4) rfl)) (fun _ h9 => h9) rfl dX5_movePoints_51 ?_
      refine lv_iload hx hb dX5_movePoints_54 (lv_at hl 4 rfl) ?_
      obtain ⟨v10, hv, h⟩ := zb h
      refine z_iald hx hb hK hP 3 0 rfl rfl hv dX5_movePoints_56 ?_
      refine va_putN (D := G) (ci := 4) (v := .int v10) (ty := .int) (C := RX4) (T := TX4) (N := 7) hx hb hts iw_X5_movePoints_X4 tyX4 tyX4_ok nmX4 hown hK hP hD hS 1 rfl rfl 3 (by decide) (va_Nw.use rfl (hE.1 (.fieldLinkNest RX5 106 "SpireLean$Town" "point" "I" "SpireLean") (List.mem_of_getElem? (i := 6) rfl))) (fun _ h9 => h9) rfl (tyX4_ok 3 (by decide)) rfl rfl (Nat.le_of_ble_eq_true rfl) dX5_movePoints_57 (fun H locs hP hD hS => ?_)
      have hP : va_P G vwCl [(a_x, .inr (5, [.ref a_L, .ref a_T, .ref a_x_images, .ref a_x_kept, .ref a_P, .ref a_N, .ref a_D, .ref a_x_sheets, .ref a_x_points, .ref a_x_tally, .int x_textFault, .int x_readFault])), (a_T, .inr (4, [.ref a_T_traits, .int T_draws, .int T_foot, .int v10, .int T_stiff, .int T_bears, .int x2.2.2.1])), (a_T_traits, .inl (k 0, 20, .inl o9)), (a_x_points, .inl (k 0, 21, .inl x2.2.2.2.2))] H := hP
      have hD : va_D A [(a_x, .inr (5, [.ref a_L, .ref a_T, .ref a_x_images, .ref a_x_kept, .ref a_P, .ref a_N, .ref a_D, .ref a_x_sheets, .ref a_x_points, .ref a_x_tally, .int x_textFault, .int x_readFault])), (a_T, .inr (4, [.ref a_T_traits, .int T_draws, .int T_foot, .int v10, .int T_stiff, .int T_bears, .int x2.2.2.1])), (a_T_traits, .inl (k 0, 20, .inl o9)), (a_x_points, .inl (k 0, 21, .inl x2.2.2.2.2))] := hD
      refine lv_aload_n hx hb dX5_movePoints_60 rfl (lv_at hl 0 rfl) ?_
      refine va_get (D := G) (ci := 5) (v := .ref a_T) (C := RX5) (T := TX5) (N := 12) hx hb hts iw_X5_movePoints_X5 hown hK hP 0 rfl rfl 1 (by decide) (hts (.fieldLink RX5 16 "SpireLean" "trial" "LSpireLean$Town;") (List.mem_of_getElem? (i := 1) rfl)) (fun _ h9 => h9) rfl dX5_movePoints_61 ?_
      refine lv_iload_n hx hb dX5_movePoints_64 rfl (lv_at hl 3 rfl) ?_
      refine va_putN (D := G) (ci := 4) (v := .int T_year) (ty := .int) (C := RX4) (T := TX4) (N := 7) hx hb hts iw_X5_movePoints_X4 tyX4 tyX4_ok nmX4 hown hK hP hD hS 1 rfl rfl 6 (by decide) (va_Nw.use rfl (hE.1 (.fieldLinkNest RX5 100 "SpireLean$Town" "year" "I" "SpireLean") (List.mem_of_getElem? (i := 12) rfl))) (fun _ h9 => h9) rfl (tyX4_ok 6 (by decide)) rfl rfl (Nat.le_of_ble_eq_true rfl) dX5_movePoints_65 (fun H locs hP hD hS => ?_)
      have hP : va_P G vwCl [(a_x, .inr (5, [.ref a_L, .ref a_T, .ref a_x_images, .ref a_x_kept, .ref a_P, .ref a_N, .ref a_D, .ref a_x_sheets, .ref a_x_points, .ref a_x_tally, .int x_textFault, .int x_readFault])), (a_T, .inr (4, [.ref a_T_traits, .int T_draws, .int T_foot, .int v10, .int T_stiff, .int T_bears, .int T_year])), (a_T_traits, .inl (k 0, 20, .inl o9)), (a_x_points, .inl (k 0, 21, .inl x2.2.2.2.2))] H := hP
      have hD : va_D A [(a_x, .inr (5, [.ref a_L, .ref a_T, .ref a_x_images, .ref a_x_kept, .ref a_P, .ref a_N, .ref a_D, .ref a_x_sheets, .ref a_x_points, .ref a_x_tally, .int x_textFault, .int x_readFault])), (a_T, .inr (4, [.ref a_T_traits, .int T_draws, .int T_foot, .int v10, .int T_stiff, .int T_bears, .int T_year])), (a_T_traits, .inl (k 0, 20, .inl o9)), (a_x_points, .inl (k 0, 21, .inl x2.2.2.2.2))] := hD
      refine lv_aload_n hx hb dX5_movePoints_68 rfl (lv_at hl 0 rfl) ?_
      refine va_get (D := G) (ci := 5) (v := .ref a_T) (C := RX5) (T := TX5) (N := 12) hx hb hts iw_X5_movePoints_X5 hown hK hP 0 rfl rfl 1 (by decide) (hts (.fieldLink RX5 16 "SpireLean" "trial" "LSpireLean$Town;") (List.mem_of_getElem? (i := 1) rfl)) (fun _ h9 => h9) rfl dX5_movePoints_69 ?_
      obtain ⟨o11, hv, h⟩ := zb h
      refine z_goi (w2 := [(a_x, .inr (5, [.ref a_L, .ref a_T, .ref a_x_images, .ref a_x_kept, .ref a_P, .ref a_N, .ref a_D, .ref a_x_sheets, .ref a_x_points, .ref a_x_tally, .int x_textFault, .int x_readFault])), (a_T, .inr (4, [.ref a_T_traits, .int T_draws, .int T_foot, .int o11.2.1, .int T_stiff, .int T_bears, .int o11.2.2])), (a_T_traits, .inl (k 0, 20, .inl o9)), (a_x_points, .inl (k 0, 21, .inl x2.2.2.2.2))]) [1, 2] (va_runVN (As := []) (rest := []) ⟨hx, hb, hml, hown, hts⟩ (c_X4_passYear l G k tL tM sK sV a_T a_T_traits H.size T_draws T_foot v10 T_stiff T_bears T_year o9 o11 hv) ⟨va_cnB 0 hts gX5_movePoints_X4_passYear_n195 rfl rfl rfl (hE.1 (.methodLinkNest RX5 195 yX4_passYear "SpireLean") (List.mem_of_getElem? (i := 57) rfl)) (hts (.initialized RX4) (List.mem_of_getElem? (i := 6) rfl)) (by decide +kernel) ⟨Nat.le_of_ble_eq_true rfl, Nat.le_of_ble_eq_true rfl⟩, (hts (.instanceMethod yX4_passYear) (List.mem_of_getElem? (i := 10) rfl)), (hts (.selects RX4 yX4_passYear yX4_passYear) (List.mem_of_getElem? (i := 11) rfl))⟩ (z_preV (wc := [(a_T, .inr (4, [.ref a_T_traits, .int T_draws, .int T_foot, .int v10, .int T_stiff, .int T_bears, .int T_year])), (a_T_traits, .inl (k 0, 20, .inl o9))]) [1, 2] 1 4 hK hE hA hP hD hS (by decide) rfl rfl rfl) rfl rfl hl.1 rfl (lv_room (Nat.le_of_ble_eq_true rfl)) dX5_movePoints_72 ⟨Nat.le_refl _, Nat.le_refl _⟩) hA hP hD hS rfl rfl rfl rfl (fun H locs hP hD hS => ?_)
      refine lv_pop hx hb dX5_movePoints_75 rfl ?_
      refine lv_aload_n hx hb dX5_movePoints_76 rfl (lv_at hl 0 rfl) ?_
      refine va_get (D := G) (ci := 5) (v := .ref a_x_points) (C := RX5) (T := TX5) (N := 12) hx hb hts iw_X5_movePoints_X5 hown hK hP 0 rfl rfl 8 (by decide) (hts (.fieldLink RX5 54 "SpireLean" "points" "[I") (List.mem_of_getElem? (i := 4) rfl)) (fun _ h9 => h9) rfl dX5_movePoints_77 ?_
      refine lv_iload hx hb dX5_movePoints_80 (lv_at hl 4 rfl) ?_
      refine lv_aload_n hx hb dX5_movePoints_82 rfl (lv_at hl 0 rfl) ?_
      refine va_get (D := G) (ci := 5) (v := .ref a_T) (C := RX5) (T := TX5) (N := 12) hx hb hts iw_X5_movePoints_X5 hown hK hP 0 rfl rfl 1 (by decide) (hts (.fieldLink RX5 16 "SpireLean" "trial" "LSpireLean$Town;") (List.mem_of_getElem? (i := 1) rfl)) (fun _ h9 => h9) rfl dX5_movePoints_83 ?_
      refine va_getN (D := G) (ci := 4) (v := .int o11.2.1) (C := RX4) (T := TX4) (N := 7) hx hb hts iw_X5_movePoints_X4 hown hK hP 1 rfl rfl 3 (by decide) (va_Nw.use rfl (hE.1 (.fieldLinkNest RX5 106 "SpireLean$Town" "point" "I" "SpireLean") (List.mem_of_getElem? (i := 6) rfl))) (fun _ h9 => h9) rfl dX5_movePoints_86 ?_
      obtain ⟨v12, hv, h⟩ := zb h
      refine z_iast hx hb hK hP hD hS 3 0 rfl rfl hv dX5_movePoints_89 (fun H locs hP hD hS => ?_)
      have hP : va_P G vwCl [(a_x, .inr (5, [.ref a_L, .ref a_T, .ref a_x_images, .ref a_x_kept, .ref a_P, .ref a_N, .ref a_D, .ref a_x_sheets, .ref a_x_points, .ref a_x_tally, .int x_textFault, .int x_readFault])), (a_T, .inr (4, [.ref a_T_traits, .int T_draws, .int T_foot, .int o11.2.1, .int T_stiff, .int T_bears, .int o11.2.2])), (a_T_traits, .inl (k 0, 20, .inl o9)), (a_x_points, .inl (k 0, 21, .inl v12))] H := hP
      have hD : va_D A [(a_x, .inr (5, [.ref a_L, .ref a_T, .ref a_x_images, .ref a_x_kept, .ref a_P, .ref a_N, .ref a_D, .ref a_x_sheets, .ref a_x_points, .ref a_x_tally, .int x_textFault, .int x_readFault])), (a_T, .inr (4, [.ref a_T_traits, .int T_draws, .int T_foot, .int o11.2.1, .int T_stiff, .int T_bears, .int o11.2.2])), (a_T_traits, .inl (k 0, 20, .inl o9)), (a_x_points, .inl (k 0, 21, .inl v12))] := hD
      refine lv_iinc (v := x2.1 + (1 : Int32)) (lv' := [(4, .int (x2.1 + (1 : Int32))), (0, .ref a_x), (1, .int u1), (2, .int u2), (3, .int T_year)]) hx hb dX5_movePoints_90 hl (k := 4) rfl rfl (by decide) rfl (fun ls hl => ?_)
      refine lv_goto (tgt := 15) hx hb dX5_movePoints_93 (by decide) ?_
      exact hC3 _ (zs h) H locs ls hP hD hS (lv_sub hl [1, 2, 3, 4, 0] rfl)
set_option maxHeartbeats 4000000 in
set_option maxRecDepth 100000 in
theorem c_X5_isSheet (l : Launch) (G : va_G) (k : Nat → ClassId) (tL tM : Nat) (sK sV : Nat → Nat) (sz : Nat) (u1 : Int32) (out : Int32) (h : p_X5_isSheet u1 = some out) : zMi l yX5_isSheet wsX5_isSheet 1 22 G k tL tM sK sV [.int u1] [] [] out sz := by
  refine z_metz (cc := cX5_isSheet) (maxL := 1) (by decide) rfl (Nat.le_of_ble_eq_true rfl) ?_
  intro p e s m below meth c A Q H locs ls hx hb hml hts hown hA hK hE hret hP hD hS hl
  have hown : s.vm.findClass RX5 = some m.cls := hown
  have hl : lv_has ls 1 [(0, .int u1)] := hl
  unfold p_X5_isSheet at h
  refine lv_iload_n hx hb dX5_isSheet_0 rfl (lv_at hl 0 rfl) ?_
  refine lv_iconst (v := 0) hx hb dX5_isSheet_1 (by decide) ?_
  refine lv_iconst (v := 3) hx hb dX5_isSheet_2 (by decide) ?_
  obtain ⟨o1, hv, h⟩ := zb h
  refine z_goi (w2 := []) [] (va_runS (As := [.int u1, .int (0 : Int32), .int (3 : Int32)]) (rest := []) ⟨hx, hb, hml, hown, hts⟩ (c_X5_within l G k tL tM sK sV H.size u1 (0 : Int32) (3 : Int32) o1 hv) (va_cwS 3 hts gX5_isSheet_X5_within rfl rfl rfl (by decide +kernel) ⟨Nat.le_of_ble_eq_true rfl, Nat.le_of_ble_eq_true rfl⟩) (z_preS (wc := []) [] hK hE hA hP hD hS (by decide) rfl) rfl rfl hl.1 rfl (lv_room (Nat.le_of_ble_eq_true rfl)) dX5_isSheet_3 ⟨Nat.le_refl _, Nat.le_refl _⟩) hA hP hD hS rfl rfl rfl rfl (fun H locs hP hD hS => ?_)
  obtain ⟨v2, hv, h⟩ := zb h
  obtain ⟨hbit, hvv⟩ := z_bitS hv
  rw [hvv]
  have hr := (zs h)
  subst hr
  exact hret H locs ls 6 hbit hP hS dX5_isSheet_6
set_option maxHeartbeats 4000000 in
set_option maxRecDepth 100000 in
theorem c_X5_isLane (l : Launch) (G : va_G) (k : Nat → ClassId) (tL tM : Nat) (sK sV : Nat → Nat) (sz : Nat) (u1 : Int32) (out : Int32) (h : p_X5_isLane u1 = some out) : zMi l yX5_isLane wsX5_isLane 1 22 G k tL tM sK sV [.int u1] [] [] out sz := by
  refine z_metz (cc := cX5_isLane) (maxL := 1) (by decide) rfl (Nat.le_of_ble_eq_true rfl) ?_
  intro p e s m below meth c A Q H locs ls hx hb hml hts hown hA hK hE hret hP hD hS hl
  have hown : s.vm.findClass RX5 = some m.cls := hown
  have hl : lv_has ls 1 [(0, .int u1)] := hl
  unfold p_X5_isLane at h
  refine lv_iload_n hx hb dX5_isLane_0 rfl (lv_at hl 0 rfl) ?_
  refine lv_iconst (v := 0) hx hb dX5_isLane_1 (by decide) ?_
  refine lv_iconst (v := 2) hx hb dX5_isLane_2 (by decide) ?_
  obtain ⟨o1, hv, h⟩ := zb h
  refine z_goi (w2 := []) [] (va_runS (As := [.int u1, .int (0 : Int32), .int (2 : Int32)]) (rest := []) ⟨hx, hb, hml, hown, hts⟩ (c_X5_within l G k tL tM sK sV H.size u1 (0 : Int32) (2 : Int32) o1 hv) (va_cwS 3 hts gX5_isLane_X5_within rfl rfl rfl (by decide +kernel) ⟨Nat.le_of_ble_eq_true rfl, Nat.le_of_ble_eq_true rfl⟩) (z_preS (wc := []) [] hK hE hA hP hD hS (by decide) rfl) rfl rfl hl.1 rfl (lv_room (Nat.le_of_ble_eq_true rfl)) dX5_isLane_3 ⟨Nat.le_refl _, Nat.le_refl _⟩) hA hP hD hS rfl rfl rfl rfl (fun H locs hP hD hS => ?_)
  obtain ⟨v2, hv, h⟩ := zb h
  obtain ⟨hbit, hvv⟩ := z_bitS hv
  rw [hvv]
  have hr := (zs h)
  subst hr
  exact hret H locs ls 6 hbit hP hS dX5_isLane_6
theorem iw_X5_removeDraw_X4 : ∀ w ∈ wsX40, w ∈ wsX5_removeDraw := fun _ h => List.mem_cons_of_mem _ (List.mem_append_right _ h)
theorem iw_X5_removeDraw_X5 : ∀ w ∈ wsX50, w ∈ wsX5_removeDraw := fun _ h => List.mem_cons_of_mem _ (List.mem_append_left _ (List.mem_append_right _ h))
set_option maxHeartbeats 4000000 in
set_option maxRecDepth 100000 in
theorem c_X5_removeDraw (l : Launch) (G : va_G) (k : Nat → ClassId) (tL tM : Nat) (sK sV : Nat → Nat) (a_x : Nat) (a_L : Nat) (a_T : Nat) (a_x_images : Nat) (a_x_kept : Nat) (a_P : Nat) (a_N : Nat) (a_D : Nat) (a_x_sheets : Nat) (a_x_points : Nat) (a_x_tally : Nat) (a_T_traits : Nat) (sz : Nat) (x_textFault : Int32) (x_readFault : Int32) (T_draws : Int32) (T_foot : Int32) (T_point : Int32) (T_stiff : Int32) (T_bears : Int32) (T_year : Int32) (T_traits : Nat → Int32) (u1 : Int32) (u2 : Int32) (out : Int32 × Int32 × Int32 × (Nat → Int32)) (h : p_X5_removeDraw u1 u2 T_draws T_foot T_point T_stiff T_bears T_year T_traits = some out) : zMi l yX5_removeDraw wsX5_removeDraw 5 105 G k tL tM sK sV [.ref a_x, .int u1, .int u2] [(a_x, .inr (5, [.ref a_L, .ref a_T, .ref a_x_images, .ref a_x_kept, .ref a_P, .ref a_N, .ref a_D, .ref a_x_sheets, .ref a_x_points, .ref a_x_tally, .int x_textFault, .int x_readFault])), (a_T, .inr (4, [.ref a_T_traits, .int T_draws, .int T_foot, .int T_point, .int T_stiff, .int T_bears, .int T_year])), (a_T_traits, .inl (k 0, 20, .inl T_traits))] [(a_x, .inr (5, [.ref a_L, .ref a_T, .ref a_x_images, .ref a_x_kept, .ref a_P, .ref a_N, .ref a_D, .ref a_x_sheets, .ref a_x_points, .ref a_x_tally, .int x_textFault, .int x_readFault])), (a_T, .inr (4, [.ref a_T_traits, .int T_draws, .int T_foot, .int out.2.1, .int T_stiff, .int T_bears, .int out.2.2.1])), (a_T_traits, .inl (k 0, 20, .inl out.2.2.2))] out.1 sz := by
  refine z_metz (cc := cX5_removeDraw) (maxL := 3) (by decide) rfl (Nat.le_of_ble_eq_true rfl) ?_
  intro p e s m below meth c A Q H locs ls hx hb hml hts hown hA hK hE hret hP hD hS hl
  have hown : s.vm.findClass RX5 = some m.cls := hown
  have hl : lv_has ls 3 [(0, .ref a_x), (1, .int u1), (2, .int u2)] := hl
  unfold p_X5_removeDraw at h
  refine lv_aload_n hx hb dX5_removeDraw_0 rfl (lv_at hl 0 rfl) ?_
  refine va_get (D := G) (ci := 5) (v := .ref a_T) (C := RX5) (T := TX5) (N := 12) hx hb hts iw_X5_removeDraw_X5 hown hK hP 0 rfl rfl 1 (by decide) (hts (.fieldLink RX5 16 "SpireLean" "trial" "LSpireLean$Town;") (List.mem_of_getElem? (i := 1) rfl)) (fun _ h9 => h9) rfl dX5_removeDraw_1 ?_
  refine lv_iload_n hx hb dX5_removeDraw_4 rfl (lv_at hl 1 rfl) ?_
  obtain ⟨o1, hv, h⟩ := zb h
  refine z_goi (w2 := [(a_x, .inr (5, [.ref a_L, .ref a_T, .ref a_x_images, .ref a_x_kept, .ref a_P, .ref a_N, .ref a_D, .ref a_x_sheets, .ref a_x_points, .ref a_x_tally, .int x_textFault, .int x_readFault])), (a_T, .inr (4, [.ref a_T_traits, .int T_draws, .int T_foot, .int T_point, .int T_stiff, .int T_bears, .int T_year])), (a_T_traits, .inl (k 0, 20, .inl T_traits))]) [1] (va_runVN (As := [.int u1]) (rest := []) ⟨hx, hb, hml, hown, hts⟩ (c_X4_hasDraw l G k tL tM sK sV a_T a_T_traits H.size T_draws T_foot T_point T_stiff T_bears T_year u1 o1 hv) ⟨va_cnB 1 hts gX5_removeDraw_X4_hasDraw_n129 rfl rfl rfl (hE.1 (.methodLinkNest RX5 129 yX4_hasDraw "SpireLean") (List.mem_of_getElem? (i := 41) rfl)) (hts (.initialized RX4) (List.mem_of_getElem? (i := 3) rfl)) (by decide +kernel) ⟨Nat.le_of_ble_eq_true rfl, Nat.le_of_ble_eq_true rfl⟩, (hts (.instanceMethod yX4_hasDraw) (List.mem_of_getElem? (i := 2) rfl)), (hts (.selects RX4 yX4_hasDraw yX4_hasDraw) (List.mem_of_getElem? (i := 4) rfl))⟩ (z_preV (wc := [(a_T, .inr (4, [.ref a_T_traits, .int T_draws, .int T_foot, .int T_point, .int T_stiff, .int T_bears, .int T_year]))]) [1] 1 4 hK hE hA hP hD hS (by decide) rfl rfl rfl) rfl rfl hl.1 rfl (lv_room (Nat.le_of_ble_eq_true rfl)) dX5_removeDraw_5 ⟨Nat.le_refl _, Nat.le_refl _⟩) hA hP hD hS rfl rfl rfl rfl (fun H locs hP hD hS => ?_)
  refine lv_if_eq (tgt := 31) hx hb dX5_removeDraw_8 (by decide) (fun c7 => ?_) (fun c7 => ?_)
  · have h := zit c7 h
    refine lv_iconst (v := 0) hx hb dX5_removeDraw_31 (by decide) ?_
    have hr := (zs h)
    subst hr
    exact hret H locs ls 32 (Or.inl rfl) hP hS dX5_removeDraw_32
  · have h := zif c7 h
    refine lv_iload_n hx hb dX5_removeDraw_11 rfl (lv_at hl 2 rfl) ?_
    obtain ⟨o2, hv, h⟩ := zb h
    refine z_goi (w2 := [(a_x, .inr (5, [.ref a_L, .ref a_T, .ref a_x_images, .ref a_x_kept, .ref a_P, .ref a_N, .ref a_D, .ref a_x_sheets, .ref a_x_points, .ref a_x_tally, .int x_textFault, .int x_readFault])), (a_T, .inr (4, [.ref a_T_traits, .int T_draws, .int T_foot, .int T_point, .int T_stiff, .int T_bears, .int T_year])), (a_T_traits, .inl (k 0, 20, .inl T_traits))]) [] (va_runS (As := [.int u2]) (rest := []) ⟨hx, hb, hml, hown, hts⟩ (c_X5_isCell l G k tL tM sK sV H.size u2 o2 hv) (va_cwS 1 hts gX5_removeDraw_X5_isCell rfl rfl rfl (by decide +kernel) ⟨Nat.le_of_ble_eq_true rfl, Nat.le_of_ble_eq_true rfl⟩) (z_preS (wc := []) [] hK hE hA hP hD hS (by decide) rfl) rfl rfl hl.1 rfl (lv_room (Nat.le_of_ble_eq_true rfl)) dX5_removeDraw_12 ⟨Nat.le_refl _, Nat.le_refl _⟩) hA hP hD hS rfl rfl rfl rfl (fun H locs hP hD hS => ?_)
    refine lv_if_eq (tgt := 31) hx hb dX5_removeDraw_15 (by decide) (fun c6 => ?_) (fun c6 => ?_)
    · have h := zit c6 h
      refine lv_iconst (v := 0) hx hb dX5_removeDraw_31 (by decide) ?_
      have hr := (zs h)
      subst hr
      exact hret H locs ls 32 (Or.inl rfl) hP hS dX5_removeDraw_32
    · have h := zif c6 h
      refine lv_aload_n hx hb dX5_removeDraw_18 rfl (lv_at hl 0 rfl) ?_
      refine va_get (D := G) (ci := 5) (v := .ref a_T) (C := RX5) (T := TX5) (N := 12) hx hb hts iw_X5_removeDraw_X5 hown hK hP 0 rfl rfl 1 (by decide) (hts (.fieldLink RX5 16 "SpireLean" "trial" "LSpireLean$Town;") (List.mem_of_getElem? (i := 1) rfl)) (fun _ h9 => h9) rfl dX5_removeDraw_19 ?_
      refine va_getN (D := G) (ci := 4) (v := .int T_year) (C := RX4) (T := TX4) (N := 7) hx hb hts iw_X5_removeDraw_X4 hown hK hP 1 rfl rfl 6 (by decide) (va_Nw.use rfl (hE.1 (.fieldLinkNest RX5 100 "SpireLean$Town" "year" "I" "SpireLean") (List.mem_of_getElem? (i := 12) rfl))) (fun _ h9 => h9) rfl dX5_removeDraw_22 ?_
      refine lv_sipush (v := 999) hx hb dX5_removeDraw_25 (by decide) ?_
      refine lv_icmp_lt (tgt := 33) hx hb dX5_removeDraw_28 (by decide) (fun c5 => ?_) (fun c5 => ?_)
      · have h := zit c5 h
        refine lv_aload_n hx hb dX5_removeDraw_33 rfl (lv_at hl 0 rfl) ?_
        refine va_get (D := G) (ci := 5) (v := .ref a_T) (C := RX5) (T := TX5) (N := 12) hx hb hts iw_X5_removeDraw_X5 hown hK hP 0 rfl rfl 1 (by decide) (hts (.fieldLink RX5 16 "SpireLean" "trial" "LSpireLean$Town;") (List.mem_of_getElem? (i := 1) rfl)) (fun _ h9 => h9) rfl dX5_removeDraw_34 ?_
        refine lv_iload_n hx hb dX5_removeDraw_37 rfl (lv_at hl 1 rfl) ?_
        refine lv_iconst (v := 2) hx hb dX5_removeDraw_38 (by decide) ?_
        refine lv_iload_n hx hb dX5_removeDraw_39 rfl (lv_at hl 2 rfl) ?_
        obtain ⟨o3, hv, h⟩ := zb h
        refine z_gov (w2 := [(a_x, .inr (5, [.ref a_L, .ref a_T, .ref a_x_images, .ref a_x_kept, .ref a_P, .ref a_N, .ref a_D, .ref a_x_sheets, .ref a_x_points, .ref a_x_tally, .int x_textFault, .int x_readFault])), (a_T, .inr (4, [.ref a_T_traits, .int T_draws, .int T_foot, .int T_point, .int T_stiff, .int T_bears, .int T_year])), (a_T_traits, .inl (k 0, 20, .inl o3))]) [1, 2] (va_runVN (As := [.int u1, .int (2 : Int32), .int u2]) (rest := []) ⟨hx, hb, hml, hown, hts⟩ (c_X4_setTrait l G k tL tM sK sV a_T a_T_traits H.size T_draws T_foot T_point T_stiff T_bears T_year T_traits u1 (2 : Int32) u2 o3 hv) ⟨va_cnB 3 hts gX5_removeDraw_X4_setTrait_n150 rfl rfl rfl (hE.1 (.methodLinkNest RX5 150 yX4_setTrait "SpireLean") (List.mem_of_getElem? (i := 46) rfl)) (hts (.initialized RX4) (List.mem_of_getElem? (i := 3) rfl)) (by decide +kernel) ⟨Nat.le_of_ble_eq_true rfl, Nat.le_of_ble_eq_true rfl⟩, (hts (.instanceMethod yX4_setTrait) (List.mem_of_getElem? (i := 14) rfl)), (hts (.selects RX4 yX4_setTrait yX4_setTrait) (List.mem_of_getElem? (i := 15) rfl))⟩ (z_preV (wc := [(a_T, .inr (4, [.ref a_T_traits, .int T_draws, .int T_foot, .int T_point, .int T_stiff, .int T_bears, .int T_year])), (a_T_traits, .inl (k 0, 20, .inl T_traits))]) [1, 2] 1 4 hK hE hA hP hD hS (by decide) rfl rfl rfl) rfl rfl hl.1 rfl (lv_room (Nat.le_of_ble_eq_true rfl)) dX5_removeDraw_40 ⟨Nat.le_refl _, Nat.le_refl _⟩) hA hP hD hS rfl rfl rfl rfl (fun H locs hP hD hS => ?_)
        refine lv_aload_n hx hb dX5_removeDraw_43 rfl (lv_at hl 0 rfl) ?_
        refine va_get (D := G) (ci := 5) (v := .ref a_T) (C := RX5) (T := TX5) (N := 12) hx hb hts iw_X5_removeDraw_X5 hown hK hP 0 rfl rfl 1 (by decide) (hts (.fieldLink RX5 16 "SpireLean" "trial" "LSpireLean$Town;") (List.mem_of_getElem? (i := 1) rfl)) (fun _ h9 => h9) rfl dX5_removeDraw_44 ?_
        obtain ⟨o4, hv, h⟩ := zb h
        refine z_goi (w2 := [(a_x, .inr (5, [.ref a_L, .ref a_T, .ref a_x_images, .ref a_x_kept, .ref a_P, .ref a_N, .ref a_D, .ref a_x_sheets, .ref a_x_points, .ref a_x_tally, .int x_textFault, .int x_readFault])), (a_T, .inr (4, [.ref a_T_traits, .int T_draws, .int T_foot, .int o4.2.1, .int T_stiff, .int T_bears, .int o4.2.2])), (a_T_traits, .inl (k 0, 20, .inl o3))]) [1, 2] (va_runVN (As := []) (rest := []) ⟨hx, hb, hml, hown, hts⟩ (c_X4_passYear l G k tL tM sK sV a_T a_T_traits H.size T_draws T_foot T_point T_stiff T_bears T_year o3 o4 hv) ⟨va_cnB 0 hts gX5_removeDraw_X4_passYear_n195 rfl rfl rfl (hE.1 (.methodLinkNest RX5 195 yX4_passYear "SpireLean") (List.mem_of_getElem? (i := 57) rfl)) (hts (.initialized RX4) (List.mem_of_getElem? (i := 3) rfl)) (by decide +kernel) ⟨Nat.le_of_ble_eq_true rfl, Nat.le_of_ble_eq_true rfl⟩, (hts (.instanceMethod yX4_passYear) (List.mem_of_getElem? (i := 18) rfl)), (hts (.selects RX4 yX4_passYear yX4_passYear) (List.mem_of_getElem? (i := 19) rfl))⟩ (z_preV (wc := [(a_T, .inr (4, [.ref a_T_traits, .int T_draws, .int T_foot, .int T_point, .int T_stiff, .int T_bears, .int T_year])), (a_T_traits, .inl (k 0, 20, .inl o3))]) [1, 2] 1 4 hK hE hA hP hD hS (by decide) rfl rfl rfl) rfl rfl hl.1 rfl (lv_room (Nat.le_of_ble_eq_true rfl)) dX5_removeDraw_47 ⟨Nat.le_refl _, Nat.le_refl _⟩) hA hP hD hS rfl rfl rfl rfl (fun H locs hP hD hS => ?_)
        refine lv_pop hx hb dX5_removeDraw_50 rfl ?_
        refine lv_iconst (v := 1) hx hb dX5_removeDraw_51 (by decide) ?_
        have hr := (zs h)
        subst hr
        exact hret H locs ls 52 (Or.inr rfl) hP hS dX5_removeDraw_52
      · have h := zif c5 h
        refine lv_iconst (v := 0) hx hb dX5_removeDraw_31 (by decide) ?_
        have hr := (zs h)
        subst hr
        exact hret H locs ls 32 (Or.inl rfl) hP hS dX5_removeDraw_32
theorem iw_X5_imagesKept_X5 : ∀ w ∈ wsX50, w ∈ wsX5_imagesKept := fun _ h => List.mem_cons_of_mem _ (List.mem_append_right _ h)
set_option maxHeartbeats 4000000 in
set_option maxRecDepth 100000 in
theorem c_X5_imagesKept (l : Launch) (G : va_G) (k : Nat → ClassId) (tL tM : Nat) (sK sV : Nat → Nat) (a_x : Nat) (a_L : Nat) (a_T : Nat) (a_x_images : Nat) (a_x_kept : Nat) (a_P : Nat) (a_N : Nat) (a_D : Nat) (a_x_sheets : Nat) (a_x_points : Nat) (a_x_tally : Nat) (sz : Nat) (x_textFault : Int32) (x_readFault : Int32) (x_kept : Nat → Int32) (out : Int32) (h : p_X5_imagesKept x_kept = some out) : zMi l yX5_imagesKept wsX5_imagesKept 0 0 G k tL tM sK sV [.ref a_x] [(a_x, .inr (5, [.ref a_L, .ref a_T, .ref a_x_images, .ref a_x_kept, .ref a_P, .ref a_N, .ref a_D, .ref a_x_sheets, .ref a_x_points, .ref a_x_tally, .int x_textFault, .int x_readFault])), (a_x_kept, .inl (k 3, 2, .inl x_kept))] [(a_x, .inr (5, [.ref a_L, .ref a_T, .ref a_x_images, .ref a_x_kept, .ref a_P, .ref a_N, .ref a_D, .ref a_x_sheets, .ref a_x_points, .ref a_x_tally, .int x_textFault, .int x_readFault])), (a_x_kept, .inl (k 3, 2, .inl x_kept))] out sz := by
  refine z_meti (cc := cX5_imagesKept) (maxL := 3) (by decide) rfl (Nat.le_of_ble_eq_true rfl) ?_
  intro p e s m below meth c A Q H locs ls hx hb hml hts hown hA hK hE hret hP hD hS hl
  have hown : s.vm.findClass RX5 = some m.cls := hown
  have hl : lv_has ls 3 [(0, .ref a_x)] := hl
  unfold p_X5_imagesKept at h
  refine lv_iconst (v := 0) hx hb dX5_imagesKept_0 (by decide) ?_
  refine lv_istore_n (lv' := [(1, .int (0 : Int32)), (0, .ref a_x)]) hx hb dX5_imagesKept_1 rfl hl (by decide) rfl (fun ls hl => ?_)
  refine lv_iconst (v := 0) hx hb dX5_imagesKept_2 (by decide) ?_
  refine lv_istore_n (lv' := [(2, .int (0 : Int32)), (1, .int (0 : Int32)), (0, .ref a_x)]) hx hb dX5_imagesKept_3 rfl hl (by decide) rfl (fun ls hl => ?_)
  obtain ⟨e5, hv, h⟩ := zb h
  have hJ4 : ∀ (e5_ : Int32), e5_ = e5 → zW p l e (zR 0 0) s m ([.ref a_x] : List Value).toArray below meth c Q 3 A G [(a_x, .inr (5, [.ref a_L, .ref a_T, .ref a_x_images, .ref a_x_kept, .ref a_P, .ref a_N, .ref a_D, .ref a_x_sheets, .ref a_x_points, .ref a_x_tally, .int x_textFault, .int x_readFault])), (a_x_kept, .inl (k 3, 2, .inl x_kept))] [(1, .int e5_)] 27 [] := by
    intro e5_ hz
    subst hz
    intro H locs ls hP hD hS hl
    refine lv_iload_n hx hb dX5_imagesKept_27 rfl (lv_at hl 0 rfl) ?_
    have hr := (zs h)
    subst hr
    exact hret H locs ls 28 hP hS dX5_imagesKept_28
  refine z_lpW (Wh := fun (x1 : Int32 × Int32) => zW p l e (zR 0 0) s m ([.ref a_x] : List Value).toArray below meth c Q 3 A G [(a_x, .inr (5, [.ref a_L, .ref a_T, .ref a_x_images, .ref a_x_kept, .ref a_P, .ref a_N, .ref a_D, .ref a_x_sheets, .ref a_x_points, .ref a_x_tally, .int x_textFault, .int x_readFault])), (a_x_kept, .inl (k 3, 2, .inl x_kept))] [(0, .ref a_x), (1, .int x1.1), (2, .int x1.2)] 4 []) ?_ 1000 _ hv H locs ls hP hD hS (lv_sub hl [2, 1, 0] rfl)
  clear h
  intro x1 o h hC2 hX3 H locs ls hP hD hS hl
  unfold p_X5_imagesKept_b4 at h
  refine lv_iload_n hx hb dX5_imagesKept_4 rfl (lv_at hl 2 rfl) ?_
  refine lv_iconst (v := 2) hx hb dX5_imagesKept_5 (by decide) ?_
  refine lv_icmp_ge (tgt := 27) hx hb dX5_imagesKept_6 (by decide) (fun c9 => ?_) (fun c9 => ?_)
  · have h := zit c9 h
    exact hJ4 _ (hX3 _ (zs h)) H locs ls hP hD hS (lv_sub hl [1] rfl)
  · have h := zif c9 h
    refine lv_aload_n hx hb dX5_imagesKept_9 rfl (lv_at hl 0 rfl) ?_
    refine va_get (D := G) (ci := 5) (v := .ref a_x_kept) (C := RX5) (T := TX5) (N := 12) hx hb hts iw_X5_imagesKept_X5 hown hK hP 0 rfl rfl 3 (by decide) (hts (.fieldLink RX5 23 "SpireLean" "kept" "[Z") (List.mem_of_getElem? (i := 1) rfl)) (fun _ h9 => h9) rfl dX5_imagesKept_10 ?_
    refine lv_iload_n hx hb dX5_imagesKept_13 rfl (lv_at hl 2 rfl) ?_
    obtain ⟨v7, hv, h⟩ := zb h
    refine z_zald hx hb hK hP 1 3 rfl rfl hv dX5_imagesKept_14 ?_
    refine lv_if_eq (tgt := 21) hx hb dX5_imagesKept_15 (by decide) (fun c8 => ?_) (fun c8 => ?_)
    · have h := zit c8 h
      refine lv_iinc (v := x1.2 + (1 : Int32)) (lv' := [(2, .int (x1.2 + (1 : Int32))), (0, .ref a_x), (1, .int x1.1)]) hx hb dX5_imagesKept_21 hl (k := 2) rfl rfl (by decide) rfl (fun ls hl => ?_)
      refine lv_goto (tgt := 4) hx hb dX5_imagesKept_24 (by decide) ?_
      exact hC2 _ (zs h) H locs ls hP hD hS (lv_sub hl [1, 2, 0] rfl)
    · have h := zif c8 h
      refine lv_iinc (v := x1.1 + (1 : Int32)) (lv' := [(1, .int (x1.1 + (1 : Int32))), (0, .ref a_x), (2, .int x1.2)]) hx hb dX5_imagesKept_18 hl (k := 1) rfl rfl (by decide) rfl (fun ls hl => ?_)
      refine lv_iinc (v := x1.2 + (1 : Int32)) (lv' := [(2, .int (x1.2 + (1 : Int32))), (1, .int (x1.1 + (1 : Int32))), (0, .ref a_x)]) hx hb dX5_imagesKept_21 hl (k := 2) rfl rfl (by decide) rfl (fun ls hl => ?_)
      refine lv_goto (tgt := 4) hx hb dX5_imagesKept_24 (by decide) ?_
      exact hC2 _ (zs h) H locs ls hP hD hS (lv_sub hl [2, 1, 0] rfl)
