set_option maxHeartbeats 4000000 in
set_option maxRecDepth 100000 in
theorem c_X5_far (l : Launch) (G : va_G) (k : Nat → ClassId) (tL tM : Nat) (sK sV : Nat → Nat) (sz : Nat) (u1 : Int32) (u2 : Int32) (out : Int32) (h : p_X5_far u1 u2 = some out) : zMi l yX5_far wsX5_far 0 0 G k tL tM sK sV [.int u1, .int u2] [] [] out sz := by
  refine z_meti (cc := cX5_far) (maxL := 4) (by decide) rfl (Nat.le_of_ble_eq_true rfl) ?_
  intro p e s m below meth c A Q H locs ls hx hb hml hts hown hA hK hE hret hP hD hS hl
  have hown : s.vm.findClass RX5 = some m.cls := hown
  have hl : lv_has ls 4 [(0, .int u1), (1, .int u2)] := hl
  unfold p_X5_far at h
  refine lv_iload_n hx hb dX5_far_0 rfl (lv_at hl 0 rfl) ?_
  refine lv_bipush (v := 10) hx hb dX5_far_1 (by decide) ?_
  refine lv_idiv hx hb dX5_far_3 (by decide) ?_
  refine lv_iload_n hx hb dX5_far_4 rfl (lv_at hl 1 rfl) ?_
  refine lv_bipush (v := 10) hx hb dX5_far_5 (by decide) ?_
  refine lv_idiv hx hb dX5_far_7 (by decide) ?_
  refine lv_isub hx hb dX5_far_8 ?_
  refine lv_istore_n (lv' := [(2, .int ((u1 / (10 : Int32)) - (u2 / (10 : Int32)))), (0, .int u1), (1, .int u2)]) hx hb dX5_far_9 rfl hl (by decide) rfl (fun ls hl => ?_)
  refine lv_iload_n hx hb dX5_far_10 rfl (lv_at hl 1 rfl) ?_
  refine lv_bipush (v := 10) hx hb dX5_far_11 (by decide) ?_
  refine lv_irem hx hb dX5_far_13 (by decide) ?_
  refine lv_iload_n hx hb dX5_far_14 rfl (lv_at hl 2 rfl) ?_
  refine lv_bipush (v := 10) hx hb dX5_far_15 (by decide) ?_
  refine lv_irem hx hb dX5_far_17 (by decide) ?_
  refine lv_isub hx hb dX5_far_18 ?_
  refine lv_istore_n (lv' := [(3, .int ((u1 - u1 / (10 : Int32) * (10 : Int32)) - (u2 - u2 / (10 : Int32) * (10 : Int32)))), (2, .int ((u1 / (10 : Int32)) - (u2 / (10 : Int32)))), (0, .int u1), (1, .int u2)]) hx hb dX5_far_19 rfl hl (by decide) rfl (fun ls hl => ?_)
  refine lv_iload_n hx hb dX5_far_20 rfl (lv_at hl 1 rfl) ?_
  have hJ1 : ∀ (y2 : Int32), y2 = (if 0 ≤ ((u1 / (10 : Int32)) - (u2 / (10 : Int32))) then (u1 / (10 : Int32)) - (u2 / (10 : Int32)) else -((u1 / (10 : Int32)) - (u2 / (10 : Int32)))) → zW p l e (zR 0 0) s m ([.int u1, .int u2] : List Value).toArray below meth c Q 4 A G [] [(3, .int ((u1 - u1 / (10 : Int32) * (10 : Int32)) - (u2 - u2 / (10 : Int32) * (10 : Int32))))] 30 [.int y2] := by
    intro y2 q3
    subst q3
    intro H locs ls hP hD hS hl
    refine lv_iload_n hx hb dX5_far_30 rfl (lv_at hl 0 rfl) ?_
    refine lv_if_ge (tgt := 39) hx hb dX5_far_31 (by decide) (fun c5 => ?_) (fun c5 => ?_)
    · have h := zit c5 h
      refine lv_iload_n hx hb dX5_far_39 rfl (lv_at hl 0 rfl) ?_
      refine lv_iadd hx hb dX5_far_40 ?_
      have hr := (zs h)
      subst hr
      exact hret H locs ls 41 hP hS dX5_far_41
    · have h := zif c5 h
      refine lv_iload_n hx hb dX5_far_34 rfl (lv_at hl 0 rfl) ?_
      refine lv_ineg hx hb dX5_far_35 ?_
      refine lv_goto (tgt := 40) hx hb dX5_far_36 (by decide) ?_
      refine lv_iadd hx hb dX5_far_40 ?_
      have hr := (zs h)
      subst hr
      exact hret H locs ls 41 hP hS dX5_far_41
  refine lv_if_ge (tgt := 29) hx hb dX5_far_21 (by decide) (fun c4 => ?_) (fun c4 => ?_)
  · refine lv_iload_n hx hb dX5_far_29 rfl (lv_at hl 1 rfl) ?_
    exact hJ1 _ (if_pos c4).symm H locs ls hP hD hS (lv_sub hl [0] rfl)
  · refine lv_iload_n hx hb dX5_far_24 rfl (lv_at hl 1 rfl) ?_
    refine lv_ineg hx hb dX5_far_25 ?_
    refine lv_goto (tgt := 30) hx hb dX5_far_26 (by decide) ?_
    exact hJ1 _ (if_neg c4).symm H locs ls hP hD hS (lv_sub hl [0] rfl)
theorem iw_X4_lean_X4 : ∀ w ∈ wsX40, w ∈ wsX4_lean := fun _ h => List.mem_cons_of_mem _ (List.mem_append_right _ h)
set_option maxHeartbeats 4000000 in
set_option maxRecDepth 100000 in
theorem c_X4_lean (l : Launch) (G : va_G) (k : Nat → ClassId) (tL tM : Nat) (sK sV : Nat → Nat) (a_t : Nat) (a_t_traits : Nat) (sz : Nat) (t_draws : Int32) (t_foot : Int32) (t_point : Int32) (t_stiff : Int32) (t_bears : Int32) (t_year : Int32) (out : Int32) (h : p_X4_lean t_foot t_point = some out) : zMi l yX4_lean wsX4_lean 1 23 G k tL tM sK sV [.ref a_t] [(a_t, .inr (4, [.ref a_t_traits, .int t_draws, .int t_foot, .int t_point, .int t_stiff, .int t_bears, .int t_year]))] [(a_t, .inr (4, [.ref a_t_traits, .int t_draws, .int t_foot, .int t_point, .int t_stiff, .int t_bears, .int t_year]))] out sz := by
  refine z_meti (cc := cX4_lean) (maxL := 1) (by decide) rfl (Nat.le_of_ble_eq_true rfl) ?_
  intro p e s m below meth c A Q H locs ls hx hb hml hts hown hA hK hE hret hP hD hS hl
  have hown : s.vm.findClass RX4 = some m.cls := hown
  have hl : lv_has ls 1 [(0, .ref a_t)] := hl
  unfold p_X4_lean at h
  refine lv_aload_n hx hb dX4_lean_0 rfl (lv_at hl 0 rfl) ?_
  refine va_get (D := G) (ci := 4) (v := .int t_point) (C := RX4) (T := TX4) (N := 7) hx hb hts iw_X4_lean_X4 hown hK hP 0 rfl rfl 3 (by decide) (hts (.fieldLink RX4 25 "SpireLean$Town" "point" "I") (List.mem_of_getElem? (i := 1) rfl)) (fun _ h9 => h9) rfl dX4_lean_1 ?_
  refine lv_aload_n hx hb dX4_lean_4 rfl (lv_at hl 0 rfl) ?_
  refine va_get (D := G) (ci := 4) (v := .int t_foot) (C := RX4) (T := TX4) (N := 7) hx hb hts iw_X4_lean_X4 hown hK hP 0 rfl rfl 2 (by decide) (hts (.fieldLink RX4 22 "SpireLean$Town" "foot" "I") (List.mem_of_getElem? (i := 2) rfl)) (fun _ h9 => h9) rfl dX4_lean_5 ?_
  obtain ⟨o1, hv, h⟩ := zb h
  refine z_goi (w2 := [(a_t, .inr (4, [.ref a_t_traits, .int t_draws, .int t_foot, .int t_point, .int t_stiff, .int t_bears, .int t_year]))]) [] (va_runSN (As := [.int t_point, .int t_foot]) (rest := []) ⟨hx, hb, hml, hown, hts⟩ (c_X5_far l G k tL tM sK sV H.size t_point t_foot o1 hv) ⟨va_cnB 2 hts gX4_lean_X5_far_n55 rfl rfl rfl (hE.1 (.methodLinkNest RX4 55 yX5_far "SpireLean") (List.mem_of_getElem? (i := 37) rfl)) (hts (.initialized RX5) (List.mem_of_getElem? (i := 4) rfl)) (by decide +kernel) ⟨Nat.le_of_ble_eq_true rfl, Nat.le_of_ble_eq_true rfl⟩, (hts (.static yX5_far) (List.mem_of_getElem? (i := 3) rfl)), trivial⟩ (z_preS (wc := []) [] hK hE hA hP hD hS (by decide) rfl) rfl rfl hl.1 rfl (lv_room (Nat.le_of_ble_eq_true rfl)) dX4_lean_8 ⟨Nat.le_refl _, Nat.le_refl _⟩) hA hP hD hS rfl rfl rfl rfl (fun H locs hP hD hS => ?_)
  have hr := (zs h)
  subst hr
  exact hret H locs ls 11 hP hS dX4_lean_11
theorem iw_X4_trait_X4 : ∀ w ∈ wsX40, w ∈ wsX4_trait := fun _ h => List.mem_cons_of_mem _ (List.mem_append_right _ h)
set_option maxHeartbeats 4000000 in
set_option maxRecDepth 100000 in
theorem c_X4_trait (l : Launch) (G : va_G) (k : Nat → ClassId) (tL tM : Nat) (sK sV : Nat → Nat) (a_t : Nat) (a_t_traits : Nat) (sz : Nat) (t_draws : Int32) (t_foot : Int32) (t_point : Int32) (t_stiff : Int32) (t_bears : Int32) (t_year : Int32) (t_traits : Nat → Int32) (u1 : Int32) (u2 : Int32) (out : Int32) (h : p_X4_trait u1 u2 t_traits = some out) : zMi l yX4_trait wsX4_trait 0 0 G k tL tM sK sV [.ref a_t, .int u1, .int u2] [(a_t, .inr (4, [.ref a_t_traits, .int t_draws, .int t_foot, .int t_point, .int t_stiff, .int t_bears, .int t_year])), (a_t_traits, .inl (k 0, 20, .inl t_traits))] [(a_t, .inr (4, [.ref a_t_traits, .int t_draws, .int t_foot, .int t_point, .int t_stiff, .int t_bears, .int t_year])), (a_t_traits, .inl (k 0, 20, .inl t_traits))] out sz := by
  refine z_meti (cc := cX4_trait) (maxL := 3) (by decide) rfl (Nat.le_of_ble_eq_true rfl) ?_
  intro p e s m below meth c A Q H locs ls hx hb hml hts hown hA hK hE hret hP hD hS hl
  have hown : s.vm.findClass RX4 = some m.cls := hown
  have hl : lv_has ls 3 [(0, .ref a_t), (1, .int u1), (2, .int u2)] := hl
  unfold p_X4_trait at h
  refine lv_aload_n hx hb dX4_trait_0 rfl (lv_at hl 0 rfl) ?_
  refine va_get (D := G) (ci := 4) (v := .ref a_t_traits) (C := RX4) (T := TX4) (N := 7) hx hb hts iw_X4_trait_X4 hown hK hP 0 rfl rfl 0 (by decide) (hts (.fieldLink RX4 9 "SpireLean$Town" "traits" "[I") (List.mem_of_getElem? (i := 1) rfl)) (fun _ h9 => h9) rfl dX4_trait_1 ?_
  refine lv_iconst (v := 4) hx hb dX4_trait_4 (by decide) ?_
  refine lv_iload_n hx hb dX4_trait_5 rfl (lv_at hl 1 rfl) ?_
  refine lv_imul hx hb dX4_trait_6 ?_
  refine lv_iload_n hx hb dX4_trait_7 rfl (lv_at hl 2 rfl) ?_
  refine lv_iadd hx hb dX4_trait_8 ?_
  obtain ⟨v1, hv, h⟩ := zb h
  refine z_iald hx hb hK hP 1 0 rfl rfl hv dX4_trait_9 ?_
  have hr := (zs h)
  subst hr
  exact hret H locs ls 10 hP hS dX4_trait_10
set_option maxHeartbeats 4000000 in
set_option maxRecDepth 100000 in
theorem c_X4_strength (l : Launch) (G : va_G) (k : Nat → ClassId) (tL tM : Nat) (sK sV : Nat → Nat) (sz : Nat) (u1 : Int32) (u2 : Int32) (out : Int32) (h : p_X4_strength u1 u2 = some out) : zMi l yX4_strength wsX4_strength 0 0 G k tL tM sK sV [.int u1, .int u2] [] [] out sz := by
  refine z_meti (cc := cX4_strength) (maxL := 3) (by decide) rfl (Nat.le_of_ble_eq_true rfl) ?_
  intro p e s m below meth c A Q H locs ls hx hb hml hts hown hA hK hE hret hP hD hS hl
  have hown : s.vm.findClass RX4 = some m.cls := hown
  have hl : lv_has ls 3 [(0, .int u1), (1, .int u2)] := hl
  unfold p_X4_strength at h
  refine lv_iload_n hx hb dX4_strength_0 rfl (lv_at hl 1 rfl) ?_
  refine lv_iconst (v := 1) hx hb dX4_strength_1 (by decide) ?_
  refine lv_iadd hx hb dX4_strength_2 ?_
  refine lv_iconst (v := 2) hx hb dX4_strength_3 (by decide) ?_
  refine lv_idiv hx hb dX4_strength_4 (by decide) ?_
  refine lv_istore_n (lv' := [(2, .int ((u2 + (1 : Int32)) / (2 : Int32))), (0, .int u1), (1, .int u2)]) hx hb dX4_strength_5 rfl hl (by decide) rfl (fun ls hl => ?_)
  refine lv_iload_n hx hb dX4_strength_6 rfl (lv_at hl 1 rfl) ?_
  by_cases c1 : u1 = (0 : Int32)
  · have h := zit c1 h
    refine lv_tableIn (off := 25) (tgt := 32) hx hb dX4_strength_7 (by rw [c1]; decide) (by rw [c1]; decide) (by rw [c1]; decide) (by decide) ?_
    refine lv_iload_n hx hb dX4_strength_32 rfl (lv_at hl 2 rfl) ?_
    have hr := (zs h)
    subst hr
    exact hret H locs ls 33 hP hS dX4_strength_33
  · have h := zif c1 h
    by_cases c2 : u1 = (1 : Int32)
    · have h := zit c2 h
      refine lv_tableIn (off := 27) (tgt := 34) hx hb dX4_strength_7 (by rw [c2]; decide) (by rw [c2]; decide) (by rw [c2]; decide) (by decide) ?_
      refine lv_iload_n hx hb dX4_strength_34 rfl (lv_at hl 0 rfl) ?_
      have hr := (zs h)
      subst hr
      exact hret H locs ls 35 hP hS dX4_strength_35
    · have h := zif c2 h
      by_cases c3 : u1 = (2 : Int32)
      · have h := zit c3 h
        refine lv_tableIn (off := 29) (tgt := 36) hx hb dX4_strength_7 (by rw [c3]; decide) (by rw [c3]; decide) (by rw [c3]; decide) (by decide) ?_
        refine lv_iload_n hx hb dX4_strength_36 rfl (lv_at hl 0 rfl) ?_
        refine lv_iconst (v := 1) hx hb dX4_strength_37 (by decide) ?_
        refine lv_iadd hx hb dX4_strength_38 ?_
        have hr := (zs h)
        subst hr
        exact hret H locs ls 39 hP hS dX4_strength_39
      · have h := zif c3 h
        have hw : (u1).toInt < 0 ∨ 2 < (u1).toInt := by
          have e0 : (u1).toInt ≠ 0 := fun q => c1 (Int32.toInt_inj.mp q)
          have e1 : (u1).toInt ≠ 1 := fun q => c2 (Int32.toInt_inj.mp q)
          have e2 : (u1).toInt ≠ 2 := fun q => c3 (Int32.toInt_inj.mp q)
          omega
        refine lv_tableOut (tgt := 40) hx hb dX4_strength_7 hw (by decide) ?_
        refine lv_iconst (v := 3) hx hb dX4_strength_40 (by decide) ?_
        refine lv_iload_n hx hb dX4_strength_41 rfl (lv_at hl 0 rfl) ?_
        refine lv_imul hx hb dX4_strength_42 ?_
        have hr := (zs h)
        subst hr
        exact hret H locs ls 43 hP hS dX4_strength_43
theorem iw_X4_force_X4 : ∀ w ∈ wsX40, w ∈ wsX4_force := fun _ h => List.mem_cons_of_mem _ (List.mem_append_right _ h)
set_option maxHeartbeats 4000000 in
set_option maxRecDepth 100000 in
theorem c_X4_force (l : Launch) (G : va_G) (k : Nat → ClassId) (tL tM : Nat) (sK sV : Nat → Nat) (a_t : Nat) (a_t_traits : Nat) (sz : Nat) (t_draws : Int32) (t_foot : Int32) (t_point : Int32) (t_stiff : Int32) (t_bears : Int32) (t_year : Int32) (t_traits : Nat → Int32) (u1 : Int32) (out : Int32) (h : p_X4_force u1 t_point t_year t_traits = some out) : zMi l yX4_force wsX4_force 1 23 G k tL tM sK sV [.ref a_t, .int u1] [(a_t, .inr (4, [.ref a_t_traits, .int t_draws, .int t_foot, .int t_point, .int t_stiff, .int t_bears, .int t_year])), (a_t_traits, .inl (k 0, 20, .inl t_traits))] [(a_t, .inr (4, [.ref a_t_traits, .int t_draws, .int t_foot, .int t_point, .int t_stiff, .int t_bears, .int t_year])), (a_t_traits, .inl (k 0, 20, .inl t_traits))] out sz := by
  refine z_meti (cc := cX4_force) (maxL := 3) (by decide) rfl (Nat.le_of_ble_eq_true rfl) ?_
  intro p e s m below meth c A Q H locs ls hx hb hml hts hown hA hK hE hret hP hD hS hl
  have hown : s.vm.findClass RX4 = some m.cls := hown
  have hl : lv_has ls 3 [(0, .ref a_t), (1, .int u1)] := hl
  unfold p_X4_force at h
  refine lv_iconst (v := 1) hx hb dX4_force_0 (by decide) ?_
  refine lv_aload_n hx hb dX4_force_1 rfl (lv_at hl 0 rfl) ?_
  refine lv_iload_n hx hb dX4_force_2 rfl (lv_at hl 1 rfl) ?_
  refine lv_iconst (v := 2) hx hb dX4_force_3 (by decide) ?_
  obtain ⟨o1, hv, h⟩ := zb h
  refine z_goi (w2 := [(a_t, .inr (4, [.ref a_t_traits, .int t_draws, .int t_foot, .int t_point, .int t_stiff, .int t_bears, .int t_year])), (a_t_traits, .inl (k 0, 20, .inl t_traits))]) [0, 1] (va_runV (As := [.int u1, .int (2 : Int32)]) (rest := [.int (1 : Int32)]) ⟨hx, hb, hml, hown, hts⟩ (c_X4_trait l G k tL tM sK sV a_t a_t_traits H.size t_draws t_foot t_point t_stiff t_bears t_year t_traits u1 (2 : Int32) o1 hv) (cwV 2 hts gX4_force_X4_trait rfl rfl rfl (by decide +kernel) ⟨Nat.le_of_ble_eq_true rfl, Nat.le_of_ble_eq_true rfl⟩) (z_preV (wc := [(a_t, .inr (4, [.ref a_t_traits, .int t_draws, .int t_foot, .int t_point, .int t_stiff, .int t_bears, .int t_year])), (a_t_traits, .inl (k 0, 20, .inl t_traits))]) [0, 1] 0 4 hK hE hA hP hD hS (by decide) rfl rfl rfl) rfl rfl hl.1 rfl (lv_room (Nat.le_of_ble_eq_true rfl)) dX4_force_4 ⟨Nat.le_refl _, Nat.le_refl _⟩) hA hP hD hS rfl rfl rfl rfl (fun H locs hP hD hS => ?_)
  refine lv_aload_n hx hb dX4_force_7 rfl (lv_at hl 0 rfl) ?_
  refine va_get (D := G) (ci := 4) (v := .int t_point) (C := RX4) (T := TX4) (N := 7) hx hb hts iw_X4_force_X4 hown hK hP 0 rfl rfl 3 (by decide) (hts (.fieldLink RX4 25 "SpireLean$Town" "point" "I") (List.mem_of_getElem? (i := 1) rfl)) (fun _ h9 => h9) rfl dX4_force_8 ?_
  obtain ⟨o2, hv, h⟩ := zb h
  refine z_goi (w2 := [(a_t, .inr (4, [.ref a_t_traits, .int t_draws, .int t_foot, .int t_point, .int t_stiff, .int t_bears, .int t_year])), (a_t_traits, .inl (k 0, 20, .inl t_traits))]) [] (va_runSN (As := [.int o1, .int t_point]) (rest := [.int (1 : Int32)]) ⟨hx, hb, hml, hown, hts⟩ (c_X5_far l G k tL tM sK sV H.size o1 t_point o2 hv) ⟨va_cnB 2 hts gX4_force_X5_far_n55 rfl rfl rfl (hE.1 (.methodLinkNest RX4 55 yX5_far "SpireLean") (List.mem_of_getElem? (i := 37) rfl)) (hts (.initialized RX5) (List.mem_of_getElem? (i := 10) rfl)) (by decide +kernel) ⟨Nat.le_of_ble_eq_true rfl, Nat.le_of_ble_eq_true rfl⟩, (hts (.static yX5_far) (List.mem_of_getElem? (i := 9) rfl)), trivial⟩ (z_preS (wc := []) [] hK hE hA hP hD hS (by decide) rfl) rfl rfl hl.1 rfl (lv_room (Nat.le_of_ble_eq_true rfl)) dX4_force_11 ⟨Nat.le_refl _, Nat.le_refl _⟩) hA hP hD hS rfl rfl rfl rfl (fun H locs hP hD hS => ?_)
  refine lv_iadd hx hb dX4_force_14 ?_
  refine lv_istore_n (lv' := [(2, .int ((1 : Int32) + o2)), (0, .ref a_t), (1, .int u1)]) hx hb dX4_force_15 rfl hl (by decide) rfl (fun ls hl => ?_)
  refine lv_iload_n hx hb dX4_force_16 rfl (lv_at hl 0 rfl) ?_
  refine lv_if_le (tgt := 33) hx hb dX4_force_17 (by decide) (fun c9 => ?_) (fun c9 => ?_)
  · have h := zit c9 h
    refine lv_iconst (v := 0) hx hb dX4_force_33 (by decide) ?_
    have hr := (zs h)
    subst hr
    exact hret H locs ls 34 hP hS dX4_force_34
  · have h := zif c9 h
    refine lv_aload_n hx hb dX4_force_20 rfl (lv_at hl 1 rfl) ?_
    refine va_get (D := G) (ci := 4) (v := .int t_year) (C := RX4) (T := TX4) (N := 7) hx hb hts iw_X4_force_X4 hown hK hP 0 rfl rfl 6 (by decide) (hts (.fieldLink RX4 34 "SpireLean$Town" "year" "I") (List.mem_of_getElem? (i := 2) rfl)) (fun _ h9 => h9) rfl dX4_force_21 ?_
    refine lv_aload_n hx hb dX4_force_24 rfl (lv_at hl 1 rfl) ?_
    refine lv_iload_n hx hb dX4_force_25 rfl (lv_at hl 2 rfl) ?_
    refine lv_iconst (v := 3) hx hb dX4_force_26 (by decide) ?_
    obtain ⟨o3, hv, h⟩ := zb h
    refine z_goi (w2 := [(a_t, .inr (4, [.ref a_t_traits, .int t_draws, .int t_foot, .int t_point, .int t_stiff, .int t_bears, .int t_year])), (a_t_traits, .inl (k 0, 20, .inl t_traits))]) [0, 1] (va_runV (As := [.int u1, .int (3 : Int32)]) (rest := [.int t_year]) ⟨hx, hb, hml, hown, hts⟩ (c_X4_trait l G k tL tM sK sV a_t a_t_traits H.size t_draws t_foot t_point t_stiff t_bears t_year t_traits u1 (3 : Int32) o3 hv) (cwV 2 hts gX4_force_X4_trait rfl rfl rfl (by decide +kernel) ⟨Nat.le_of_ble_eq_true rfl, Nat.le_of_ble_eq_true rfl⟩) (z_preV (wc := [(a_t, .inr (4, [.ref a_t_traits, .int t_draws, .int t_foot, .int t_point, .int t_stiff, .int t_bears, .int t_year])), (a_t_traits, .inl (k 0, 20, .inl t_traits))]) [0, 1] 0 4 hK hE hA hP hD hS (by decide) rfl rfl rfl) rfl rfl hl.1 rfl (lv_room (Nat.le_of_ble_eq_true rfl)) dX4_force_27 ⟨Nat.le_refl _, Nat.le_refl _⟩) hA hP hD hS rfl rfl rfl rfl (fun H locs hP hD hS => ?_)
    refine lv_icmp_ge (tgt := 35) hx hb dX4_force_30 (by decide) (fun c8 => ?_) (fun c8 => ?_)
    · have h := zit c8 h
      refine lv_bipush (v := 60) hx hb dX4_force_35 (by decide) ?_
      refine lv_aload_n hx hb dX4_force_37 rfl (lv_at hl 1 rfl) ?_
      refine lv_iload_n hx hb dX4_force_38 rfl (lv_at hl 2 rfl) ?_
      refine lv_iconst (v := 0) hx hb dX4_force_39 (by decide) ?_
      obtain ⟨o4, hv, h⟩ := zb h
      refine z_goi (w2 := [(a_t, .inr (4, [.ref a_t_traits, .int t_draws, .int t_foot, .int t_point, .int t_stiff, .int t_bears, .int t_year])), (a_t_traits, .inl (k 0, 20, .inl t_traits))]) [0, 1] (va_runV (As := [.int u1, .int (0 : Int32)]) (rest := [.int (60 : Int32)]) ⟨hx, hb, hml, hown, hts⟩ (c_X4_trait l G k tL tM sK sV a_t a_t_traits H.size t_draws t_foot t_point t_stiff t_bears t_year t_traits u1 (0 : Int32) o4 hv) (cwV 2 hts gX4_force_X4_trait rfl rfl rfl (by decide +kernel) ⟨Nat.le_of_ble_eq_true rfl, Nat.le_of_ble_eq_true rfl⟩) (z_preV (wc := [(a_t, .inr (4, [.ref a_t_traits, .int t_draws, .int t_foot, .int t_point, .int t_stiff, .int t_bears, .int t_year])), (a_t_traits, .inl (k 0, 20, .inl t_traits))]) [0, 1] 0 4 hK hE hA hP hD hS (by decide) rfl rfl rfl) rfl rfl hl.1 rfl (lv_room (Nat.le_of_ble_eq_true rfl)) dX4_force_40 ⟨Nat.le_refl _, Nat.le_refl _⟩) hA hP hD hS rfl rfl rfl rfl (fun H locs hP hD hS => ?_)
      refine lv_aload_n hx hb dX4_force_43 rfl (lv_at hl 1 rfl) ?_
      refine lv_iload_n hx hb dX4_force_44 rfl (lv_at hl 2 rfl) ?_
      refine lv_iconst (v := 1) hx hb dX4_force_45 (by decide) ?_
      obtain ⟨o5, hv, h⟩ := zb h
      refine z_goi (w2 := [(a_t, .inr (4, [.ref a_t_traits, .int t_draws, .int t_foot, .int t_point, .int t_stiff, .int t_bears, .int t_year])), (a_t_traits, .inl (k 0, 20, .inl t_traits))]) [0, 1] (va_runV (As := [.int u1, .int (1 : Int32)]) (rest := [.int o4, .int (60 : Int32)]) ⟨hx, hb, hml, hown, hts⟩ (c_X4_trait l G k tL tM sK sV a_t a_t_traits H.size t_draws t_foot t_point t_stiff t_bears t_year t_traits u1 (1 : Int32) o5 hv) (cwV 2 hts gX4_force_X4_trait rfl rfl rfl (by decide +kernel) ⟨Nat.le_of_ble_eq_true rfl, Nat.le_of_ble_eq_true rfl⟩) (z_preV (wc := [(a_t, .inr (4, [.ref a_t_traits, .int t_draws, .int t_foot, .int t_point, .int t_stiff, .int t_bears, .int t_year])), (a_t_traits, .inl (k 0, 20, .inl t_traits))]) [0, 1] 0 4 hK hE hA hP hD hS (by decide) rfl rfl rfl) rfl rfl hl.1 rfl (lv_room (Nat.le_of_ble_eq_true rfl)) dX4_force_46 ⟨Nat.le_refl _, Nat.le_refl _⟩) hA hP hD hS rfl rfl rfl rfl (fun H locs hP hD hS => ?_)
      obtain ⟨o6, hv, h⟩ := zb h
      refine z_goi (w2 := [(a_t, .inr (4, [.ref a_t_traits, .int t_draws, .int t_foot, .int t_point, .int t_stiff, .int t_bears, .int t_year])), (a_t_traits, .inl (k 0, 20, .inl t_traits))]) [] (va_runS (As := [.int o4, .int o5]) (rest := [.int (60 : Int32)]) ⟨hx, hb, hml, hown, hts⟩ (c_X4_strength l G k tL tM sK sV H.size o4 o5 o6 hv) (va_cwS 2 hts gX4_force_X4_strength rfl rfl rfl (by decide +kernel) ⟨Nat.le_of_ble_eq_true rfl, Nat.le_of_ble_eq_true rfl⟩) (z_preS (wc := []) [] hK hE hA hP hD hS (by decide) rfl) rfl rfl hl.1 rfl (lv_room (Nat.le_of_ble_eq_true rfl)) dX4_force_49 ⟨Nat.le_refl _, Nat.le_refl _⟩) hA hP hD hS rfl rfl rfl rfl (fun H locs hP hD hS => ?_)
      refine lv_imul hx hb dX4_force_52 ?_
      refine lv_iload_n hx hb dX4_force_53 rfl (lv_at hl 0 rfl) ?_
      obtain ⟨v7, hv, h⟩ := zb h
      obtain ⟨hne, hvv⟩ := z_divS hv
      refine lv_idiv hx hb dX4_force_54 hne ?_
      rw [hvv]
      have hr := (zs h)
      subst hr
      exact hret H locs ls 55 hP hS dX4_force_55
    · have h := zif c8 h
      refine lv_iconst (v := 0) hx hb dX4_force_33 (by decide) ?_
      have hr := (zs h)
      subst hr
      exact hret H locs ls 34 hP hS dX4_force_34
theorem iw_X4_holder_X4 : ∀ w ∈ wsX40, w ∈ wsX4_holder := fun _ h => List.mem_cons_of_mem _ (List.mem_append_right _ h)
set_option maxHeartbeats 4000000 in
set_option maxRecDepth 100000 in
theorem c_X4_holder (l : Launch) (G : va_G) (k : Nat → ClassId) (tL tM : Nat) (sK sV : Nat → Nat) (a_t : Nat) (a_t_traits : Nat) (sz : Nat) (t_draws : Int32) (t_foot : Int32) (t_point : Int32) (t_stiff : Int32) (t_bears : Int32) (t_year : Int32) (t_traits : Nat → Int32) (out : Int32) (h : p_X4_holder t_draws t_foot t_point t_stiff t_bears t_year t_traits = some out) : zMi l yX4_holder wsX4_holder 2 45 G k tL tM sK sV [.ref a_t] [(a_t, .inr (4, [.ref a_t_traits, .int t_draws, .int t_foot, .int t_point, .int t_stiff, .int t_bears, .int t_year])), (a_t_traits, .inl (k 0, 20, .inl t_traits))] [(a_t, .inr (4, [.ref a_t_traits, .int t_draws, .int t_foot, .int t_point, .int t_stiff, .int t_bears, .int t_year])), (a_t_traits, .inl (k 0, 20, .inl t_traits))] out sz := by
  refine z_meti (cc := cX4_holder) (maxL := 6) (by decide) rfl (Nat.le_of_ble_eq_true rfl) ?_
  intro p e s m below meth c A Q H locs ls hx hb hml hts hown hA hK hE hret hP hD hS hl
  have hown : s.vm.findClass RX4 = some m.cls := hown
  have hl : lv_has ls 6 [(0, .ref a_t)] := hl
  unfold p_X4_holder at h
  refine lv_aload_n hx hb dX4_holder_0 rfl (lv_at hl 0 rfl) ?_
  obtain ⟨o1, hv, h⟩ := zb h
  refine z_goi (w2 := [(a_t, .inr (4, [.ref a_t_traits, .int t_draws, .int t_foot, .int t_point, .int t_stiff, .int t_bears, .int t_year])), (a_t_traits, .inl (k 0, 20, .inl t_traits))]) [0] (va_runV (As := []) (rest := []) ⟨hx, hb, hml, hown, hts⟩ (c_X4_lean l G k tL tM sK sV a_t a_t_traits H.size t_draws t_foot t_point t_stiff t_bears t_year o1 hv) (cwV 0 hts gX4_holder_X4_lean rfl rfl rfl (by decide +kernel) ⟨Nat.le_of_ble_eq_true rfl, Nat.le_of_ble_eq_true rfl⟩) (z_preV (wc := [(a_t, .inr (4, [.ref a_t_traits, .int t_draws, .int t_foot, .int t_point, .int t_stiff, .int t_bears, .int t_year]))]) [0] 0 4 hK hE hA hP hD hS (by decide) rfl rfl rfl) rfl rfl hl.1 rfl (lv_room (Nat.le_of_ble_eq_true rfl)) dX4_holder_1 ⟨Nat.le_refl _, Nat.le_refl _⟩) hA hP hD hS rfl rfl rfl rfl (fun H locs hP hD hS => ?_)
  refine lv_istore_n (lv' := [(1, .int o1), (0, .ref a_t)]) hx hb dX4_holder_4 rfl hl (by decide) rfl (fun ls hl => ?_)
  refine lv_iload_n hx hb dX4_holder_5 rfl (lv_at hl 0 rfl) ?_
  refine lv_aload_n hx hb dX4_holder_6 rfl (lv_at hl 1 rfl) ?_
  refine va_get (D := G) (ci := 4) (v := .int t_bears) (C := RX4) (T := TX4) (N := 7) hx hb hts iw_X4_holder_X4 hown hK hP 0 rfl rfl 5 (by decide) (hts (.fieldLink RX4 31 "SpireLean$Town" "bears" "I") (List.mem_of_getElem? (i := 1) rfl)) (fun _ h9 => h9) rfl dX4_holder_7 ?_
  refine lv_icmp_le (tgt := 16) hx hb dX4_holder_10 (by decide) (fun c11 => ?_) (fun c11 => ?_)
  · have h := zit c11 h
    refine lv_bipush (v := (-4)) hx hb dX4_holder_16 (by decide) ?_
    refine lv_istore_n (lv' := [(2, .int (-4 : Int32)), (1, .int o1), (0, .ref a_t)]) hx hb dX4_holder_18 rfl hl (by decide) rfl (fun ls hl => ?_)
    refine lv_aload_n hx hb dX4_holder_19 rfl (lv_at hl 2 rfl) ?_
    refine va_get (D := G) (ci := 4) (v := .int t_stiff) (C := RX4) (T := TX4) (N := 7) hx hb hts iw_X4_holder_X4 hown hK hP 0 rfl rfl 4 (by decide) (hts (.fieldLink RX4 28 "SpireLean$Town" "stiff" "I") (List.mem_of_getElem? (i := 2) rfl)) (fun _ h9 => h9) rfl dX4_holder_20 ?_
    refine lv_iload_n hx hb dX4_holder_23 rfl (lv_at hl 1 rfl) ?_
    refine lv_imul hx hb dX4_holder_24 ?_
    refine lv_istore_n (lv' := [(3, .int (t_stiff * o1)), (2, .int (-4 : Int32)), (1, .int o1), (0, .ref a_t)]) hx hb dX4_holder_25 rfl hl (by decide) rfl (fun ls hl => ?_)
    refine lv_iconst (v := 0) hx hb dX4_holder_26 (by decide) ?_
    refine lv_istore (lv' := [(4, .int (0 : Int32)), (3, .int (t_stiff * o1)), (2, .int (-4 : Int32)), (1, .int o1), (0, .ref a_t)]) hx hb dX4_holder_27 hl (by decide) rfl (fun ls hl => ?_)
    obtain ⟨e6, hv, h⟩ := zb h
    have hJ5 : ∀ (e6_ : Int32), e6_ = e6 → zW p l e (zR 2 45) s m ([.ref a_t] : List Value).toArray below meth c Q 6 A G [(a_t, .inr (4, [.ref a_t_traits, .int t_draws, .int t_foot, .int t_point, .int t_stiff, .int t_bears, .int t_year])), (a_t_traits, .inl (k 0, 20, .inl t_traits))] [(2, .int e6_)] 64 [] := by
      intro e6_ hz
      subst hz
      intro H locs ls hP hD hS hl
      refine lv_iload_n hx hb dX4_holder_64 rfl (lv_at hl 0 rfl) ?_
      have hr := (zs h)
      subst hr
      exact hret H locs ls 65 hP hS dX4_holder_65
    refine z_lpW (Wh := fun (x2 : Int32 × Int32 × Int32) => zW p l e (zR 2 45) s m ([.ref a_t] : List Value).toArray below meth c Q 6 A G [(a_t, .inr (4, [.ref a_t_traits, .int t_draws, .int t_foot, .int t_point, .int t_stiff, .int t_bears, .int t_year])), (a_t_traits, .inl (k 0, 20, .inl t_traits))] [(0, .ref a_t), (2, .int x2.1), (3, .int x2.2.1), (4, .int x2.2.2)] 29 []) ?_ 1000 _ hv H locs ls hP hD hS (lv_sub hl [4, 2, 1, 0] rfl)
    clear h
    intro x2 o h hC3 hX4 H locs ls hP hD hS hl
    unfold p_X4_holder_b29 at h
    refine lv_iload hx hb dX4_holder_29 (lv_at hl 3 rfl) ?_
    refine lv_aload_n hx hb dX4_holder_31 rfl (lv_at hl 0 rfl) ?_
    refine va_get (D := G) (ci := 4) (v := .int t_draws) (C := RX4) (T := TX4) (N := 7) hx hb hts iw_X4_holder_X4 hown hK hP 0 rfl rfl 1 (by decide) (hts (.fieldLink RX4 18 "SpireLean$Town" "draws" "I") (List.mem_of_getElem? (i := 3) rfl)) (fun _ h9 => h9) rfl dX4_holder_32 ?_
    refine lv_icmp_ge (tgt := 64) hx hb dX4_holder_35 (by decide) (fun c10 => ?_) (fun c10 => ?_)
    · have h := zit c10 h
      exact hJ5 _ (hX4 _ (zs h)) H locs ls hP hD hS (lv_sub hl [1] rfl)
    · have h := zif c10 h
      refine lv_aload_n hx hb dX4_holder_38 rfl (lv_at hl 0 rfl) ?_
      refine lv_iload hx hb dX4_holder_39 (lv_at hl 3 rfl) ?_
      obtain ⟨o8, hv, h⟩ := zb h
      refine z_goi (w2 := [(a_t, .inr (4, [.ref a_t_traits, .int t_draws, .int t_foot, .int t_point, .int t_stiff, .int t_bears, .int t_year])), (a_t_traits, .inl (k 0, 20, .inl t_traits))]) [0, 1] (va_runV (As := [.int x2.2.2]) (rest := []) ⟨hx, hb, hml, hown, hts⟩ (c_X4_force l G k tL tM sK sV a_t a_t_traits H.size t_draws t_foot t_point t_stiff t_bears t_year t_traits x2.2.2 o8 hv) (cwV 1 hts gX4_holder_X4_force rfl rfl rfl (by decide +kernel) ⟨Nat.le_of_ble_eq_true rfl, Nat.le_of_ble_eq_true rfl⟩) (z_preV (wc := [(a_t, .inr (4, [.ref a_t_traits, .int t_draws, .int t_foot, .int t_point, .int t_stiff, .int t_bears, .int t_year])), (a_t_traits, .inl (k 0, 20, .inl t_traits))]) [0, 1] 0 4 hK hE hA hP hD hS (by decide) rfl rfl rfl) rfl rfl hl.1 rfl (lv_room (Nat.le_of_ble_eq_true rfl)) dX4_holder_41 ⟨Nat.le_refl _, Nat.le_refl _⟩) hA hP hD hS rfl rfl rfl rfl (fun H locs hP hD hS => ?_)
      refine lv_istore (lv' := [(5, .int o8), (0, .ref a_t), (2, .int x2.1), (3, .int x2.2.1), (4, .int x2.2.2)]) hx hb dX4_holder_44 hl (by decide) rfl (fun ls hl => ?_)
      refine lv_iload hx hb dX4_holder_46 (lv_at hl 0 rfl) ?_
      refine lv_iload_n hx hb dX4_holder_48 rfl (lv_at hl 3 rfl) ?_
      refine lv_icmp_le (tgt := 58) hx hb dX4_holder_49 (by decide) (fun c9 => ?_) (fun c9 => ?_)
      · have h := zit c9 h
        refine lv_iinc (v := x2.2.2 + (1 : Int32)) (lv' := [(4, .int (x2.2.2 + (1 : Int32))), (5, .int o8), (0, .ref a_t), (2, .int x2.1), (3, .int x2.2.1)]) hx hb dX4_holder_58 hl (k := 4) rfl rfl (by decide) rfl (fun ls hl => ?_)
        refine lv_goto (tgt := 29) hx hb dX4_holder_61 (by decide) ?_
        exact hC3 _ (zs h) H locs ls hP hD hS (lv_sub hl [2, 3, 4, 0] rfl)
      · have h := zif c9 h
        refine lv_iload hx hb dX4_holder_52 (lv_at hl 4 rfl) ?_
        refine lv_istore_n (lv' := [(2, .int x2.2.2), (5, .int o8), (0, .ref a_t), (3, .int x2.2.1), (4, .int x2.2.2)]) hx hb dX4_holder_54 rfl hl (by decide) rfl (fun ls hl => ?_)
        refine lv_iload hx hb dX4_holder_55 (lv_at hl 1 rfl) ?_
        refine lv_istore_n (lv' := [(3, .int o8), (2, .int x2.2.2), (5, .int o8), (0, .ref a_t), (4, .int x2.2.2)]) hx hb dX4_holder_57 rfl hl (by decide) rfl (fun ls hl => ?_)
        refine lv_iinc (v := x2.2.2 + (1 : Int32)) (lv' := [(4, .int (x2.2.2 + (1 : Int32))), (3, .int o8), (2, .int x2.2.2), (5, .int o8), (0, .ref a_t)]) hx hb dX4_holder_58 hl (k := 4) rfl rfl (by decide) rfl (fun ls hl => ?_)
        refine lv_goto (tgt := 29) hx hb dX4_holder_61 (by decide) ?_
        exact hC3 _ (zs h) H locs ls hP hD hS (lv_sub hl [4, 2, 1, 0] rfl)
  · have h := zif c11 h
    refine lv_bipush (v := (-4)) hx hb dX4_holder_13 (by decide) ?_
    have hr := (zs h)
    subst hr
    exact hret H locs ls 15 hP hS dX4_holder_15
theorem iw_X4_isFallen_X4 : ∀ w ∈ wsX40, w ∈ wsX4_isFallen := fun _ h => List.mem_cons_of_mem _ (List.mem_append_right _ h)
set_option maxHeartbeats 4000000 in
set_option maxRecDepth 100000 in
theorem c_X4_isFallen (l : Launch) (G : va_G) (k : Nat → ClassId) (tL tM : Nat) (sK sV : Nat → Nat) (a_t : Nat) (a_t_traits : Nat) (sz : Nat) (t_draws : Int32) (t_foot : Int32) (t_point : Int32) (t_stiff : Int32) (t_bears : Int32) (t_year : Int32) (out : Int32) (h : p_X4_isFallen t_foot t_point t_bears = some out) : zMi l yX4_isFallen wsX4_isFallen 2 43 G k tL tM sK sV [.ref a_t] [(a_t, .inr (4, [.ref a_t_traits, .int t_draws, .int t_foot, .int t_point, .int t_stiff, .int t_bears, .int t_year]))] [(a_t, .inr (4, [.ref a_t_traits, .int t_draws, .int t_foot, .int t_point, .int t_stiff, .int t_bears, .int t_year]))] out sz := by
  refine z_metz (cc := cX4_isFallen) (maxL := 1) (by decide) rfl (Nat.le_of_ble_eq_true rfl) ?_
  intro p e s m below meth c A Q H locs ls hx hb hml hts hown hA hK hE hret hP hD hS hl
  have hown : s.vm.findClass RX4 = some m.cls := hown
  have hl : lv_has ls 1 [(0, .ref a_t)] := hl
  unfold p_X4_isFallen at h
  refine lv_aload_n hx hb dX4_isFallen_0 rfl (lv_at hl 0 rfl) ?_
  obtain ⟨o1, hv, h⟩ := zb h
  refine z_goi (w2 := [(a_t, .inr (4, [.ref a_t_traits, .int t_draws, .int t_foot, .int t_point, .int t_stiff, .int t_bears, .int t_year]))]) [0] (va_runV (As := []) (rest := []) ⟨hx, hb, hml, hown, hts⟩ (c_X4_lean l G k tL tM sK sV a_t a_t_traits H.size t_draws t_foot t_point t_stiff t_bears t_year o1 hv) (cwV 0 hts gX4_isFallen_X4_lean rfl rfl rfl (by decide +kernel) ⟨Nat.le_of_ble_eq_true rfl, Nat.le_of_ble_eq_true rfl⟩) (z_preV (wc := [(a_t, .inr (4, [.ref a_t_traits, .int t_draws, .int t_foot, .int t_point, .int t_stiff, .int t_bears, .int t_year]))]) [0] 0 4 hK hE hA hP hD hS (by decide) rfl rfl rfl) rfl rfl hl.1 rfl (lv_room (Nat.le_of_ble_eq_true rfl)) dX4_isFallen_1 ⟨Nat.le_refl _, Nat.le_refl _⟩) hA hP hD hS rfl rfl rfl rfl (fun H locs hP hD hS => ?_)
  refine lv_aload_n hx hb dX4_isFallen_4 rfl (lv_at hl 0 rfl) ?_
  refine va_get (D := G) (ci := 4) (v := .int t_bears) (C := RX4) (T := TX4) (N := 7) hx hb hts iw_X4_isFallen_X4 hown hK hP 0 rfl rfl 5 (by decide) (hts (.fieldLink RX4 31 "SpireLean$Town" "bears" "I") (List.mem_of_getElem? (i := 1) rfl)) (fun _ h9 => h9) rfl dX4_isFallen_5 ?_
  refine lv_icmp_le (tgt := 15) hx hb dX4_isFallen_8 (by decide) (fun c2 => ?_) (fun c2 => ?_)
  · have h := zit c2 h
    refine lv_iconst (v := 0) hx hb dX4_isFallen_15 (by decide) ?_
    have hr := (zs h)
    subst hr
    exact hret H locs ls 16 (Or.inl rfl) hP hS dX4_isFallen_16
  · have h := zif c2 h
    refine lv_iconst (v := 1) hx hb dX4_isFallen_11 (by decide) ?_
    refine lv_goto (tgt := 16) hx hb dX4_isFallen_12 (by decide) ?_
    have hr := (zs h)
    subst hr
    exact hret H locs ls 16 (Or.inr rfl) hP hS dX4_isFallen_16
set_option maxHeartbeats 4000000 in
set_option maxRecDepth 100000 in
theorem c_X5_sign (l : Launch) (G : va_G) (k : Nat → ClassId) (tL tM : Nat) (sK sV : Nat → Nat) (sz : Nat) (u1 : Int32) (out : Int32) (h : p_X5_sign u1 = some out) : zMi l yX5_sign wsX5_sign 0 0 G k tL tM sK sV [.int u1] [] [] out sz := by
  refine z_meti (cc := cX5_sign) (maxL := 1) (by decide) rfl (Nat.le_of_ble_eq_true rfl) ?_
  intro p e s m below meth c A Q H locs ls hx hb hml hts hown hA hK hE hret hP hD hS hl
  have hown : s.vm.findClass RX5 = some m.cls := hown
  have hl : lv_has ls 1 [(0, .int u1)] := hl
  unfold p_X5_sign at h
  refine lv_iload_n hx hb dX5_sign_0 rfl (lv_at hl 0 rfl) ?_
  refine lv_if_ne (tgt := 6) hx hb dX5_sign_1 (by decide) (fun c2 => ?_) (fun c2 => ?_)
  · have h := zif c2 h
    refine lv_iload_n hx hb dX5_sign_6 rfl (lv_at hl 0 rfl) ?_
    refine lv_if_ge (tgt := 14) hx hb dX5_sign_7 (by decide) (fun c1 => ?_) (fun c1 => ?_)
    · have h := zit c1 h
      refine lv_iconst (v := 1) hx hb dX5_sign_14 (by decide) ?_
      have hr := (zs h)
      subst hr
      exact hret H locs ls 15 hP hS dX5_sign_15
    · have h := zif c1 h
      refine lv_iconst (v := (-1)) hx hb dX5_sign_10 (by decide) ?_
      refine lv_goto (tgt := 15) hx hb dX5_sign_11 (by decide) ?_
      have hr := (zs h)
      subst hr
      exact hret H locs ls 15 hP hS dX5_sign_15
  · have h := zit c2 h
    refine lv_iconst (v := 0) hx hb dX5_sign_4 (by decide) ?_
    have hr := (zs h)
    subst hr
    exact hret H locs ls 5 hP hS dX5_sign_5
theorem iw_X4_stepTowards_X4 : ∀ w ∈ wsX40, w ∈ wsX4_stepTowards := fun _ h => List.mem_cons_of_mem _ (List.mem_append_right _ h)
set_option maxHeartbeats 4000000 in
set_option maxRecDepth 100000 in
theorem c_X4_stepTowards (l : Launch) (G : va_G) (k : Nat → ClassId) (tL tM : Nat) (sK sV : Nat → Nat) (a_t : Nat) (a_t_traits : Nat) (sz : Nat) (t_draws : Int32) (t_foot : Int32) (t_point : Int32) (t_stiff : Int32) (t_bears : Int32) (t_year : Int32) (u1 : Int32) (out : Int32) (h : p_X4_stepTowards u1 t_point = some out) : zMi l yX4_stepTowards wsX4_stepTowards 1 30 G k tL tM sK sV [.ref a_t, .int u1] [(a_t, .inr (4, [.ref a_t_traits, .int t_draws, .int t_foot, .int t_point, .int t_stiff, .int t_bears, .int t_year]))] [(a_t, .inr (4, [.ref a_t_traits, .int t_draws, .int t_foot, .int t_point, .int t_stiff, .int t_bears, .int t_year]))] out sz := by
  refine z_meti (cc := cX4_stepTowards) (maxL := 4) (by decide) rfl (Nat.le_of_ble_eq_true rfl) ?_
  intro p e s m below meth c A Q H locs ls hx hb hml hts hown hA hK hE hret hP hD hS hl
  have hown : s.vm.findClass RX4 = some m.cls := hown
  have hl : lv_has ls 4 [(0, .ref a_t), (1, .int u1)] := hl
  unfold p_X4_stepTowards at h
  refine lv_iload_n hx hb dX4_stepTowards_0 rfl (lv_at hl 1 rfl) ?_
  refine lv_bipush (v := 10) hx hb dX4_stepTowards_1 (by decide) ?_
  refine lv_idiv hx hb dX4_stepTowards_3 (by decide) ?_
  refine lv_aload_n hx hb dX4_stepTowards_4 rfl (lv_at hl 0 rfl) ?_
  refine va_get (D := G) (ci := 4) (v := .int t_point) (C := RX4) (T := TX4) (N := 7) hx hb hts iw_X4_stepTowards_X4 hown hK hP 0 rfl rfl 3 (by decide) (hts (.fieldLink RX4 25 "SpireLean$Town" "point" "I") (List.mem_of_getElem? (i := 1) rfl)) (fun _ h9 => h9) rfl dX4_stepTowards_5 ?_
  refine lv_bipush (v := 10) hx hb dX4_stepTowards_8 (by decide) ?_
  refine lv_idiv hx hb dX4_stepTowards_10 (by decide) ?_
  refine lv_isub hx hb dX4_stepTowards_11 ?_
  refine lv_istore_n (lv' := [(2, .int ((u1 / (10 : Int32)) - (t_point / (10 : Int32)))), (0, .ref a_t), (1, .int u1)]) hx hb dX4_stepTowards_12 rfl hl (by decide) rfl (fun ls hl => ?_)
  refine lv_iload_n hx hb dX4_stepTowards_13 rfl (lv_at hl 2 rfl) ?_
  refine lv_bipush (v := 10) hx hb dX4_stepTowards_14 (by decide) ?_
  refine lv_irem hx hb dX4_stepTowards_16 (by decide) ?_
  refine lv_aload_n hx hb dX4_stepTowards_17 rfl (lv_at hl 1 rfl) ?_
  refine va_get (D := G) (ci := 4) (v := .int t_point) (C := RX4) (T := TX4) (N := 7) hx hb hts iw_X4_stepTowards_X4 hown hK hP 0 rfl rfl 3 (by decide) (hts (.fieldLink RX4 25 "SpireLean$Town" "point" "I") (List.mem_of_getElem? (i := 1) rfl)) (fun _ h9 => h9) rfl dX4_stepTowards_18 ?_
  refine lv_bipush (v := 10) hx hb dX4_stepTowards_21 (by decide) ?_
  refine lv_irem hx hb dX4_stepTowards_23 (by decide) ?_
  refine lv_isub hx hb dX4_stepTowards_24 ?_
  refine lv_istore_n (lv' := [(3, .int ((u1 - u1 / (10 : Int32) * (10 : Int32)) - (t_point - t_point / (10 : Int32) * (10 : Int32)))), (2, .int ((u1 / (10 : Int32)) - (t_point / (10 : Int32)))), (0, .ref a_t), (1, .int u1)]) hx hb dX4_stepTowards_25 rfl hl (by decide) rfl (fun ls hl => ?_)
  refine lv_iload_n hx hb dX4_stepTowards_26 rfl (lv_at hl 1 rfl) ?_
  refine va_mabs hx hb (hml.trans hl.1.symm) hown (hts (.methodLink RX4 75 Lib.Math.abs.name) (List.mem_of_getElem? (i := 2) rfl)) (hts (.static Lib.Math.abs.name) (List.mem_of_getElem? (i := 3) rfl)) (hts (.initialized "java/lang/Math") (List.mem_of_getElem? (i := 4) rfl)) (hts (.code Lib.Math.abs.name Lib.Math.abs.code 1 (some .int)) (List.mem_of_getElem? (i := 5) rfl)) (Nat.le_of_ble_eq_true rfl) (Nat.le_of_ble_eq_true rfl) (Nat.le_refl _) (Nat.le_refl _) dX4_stepTowards_27 ?_
  refine lv_iload_n hx hb dX4_stepTowards_30 rfl (lv_at hl 0 rfl) ?_
  refine va_mabs hx hb (hml.trans hl.1.symm) hown (hts (.methodLink RX4 75 Lib.Math.abs.name) (List.mem_of_getElem? (i := 2) rfl)) (hts (.static Lib.Math.abs.name) (List.mem_of_getElem? (i := 3) rfl)) (hts (.initialized "java/lang/Math") (List.mem_of_getElem? (i := 4) rfl)) (hts (.code Lib.Math.abs.name Lib.Math.abs.code 1 (some .int)) (List.mem_of_getElem? (i := 5) rfl)) (Nat.le_of_ble_eq_true rfl) (Nat.le_of_ble_eq_true rfl) (Nat.le_refl _) (Nat.le_refl _) dX4_stepTowards_31 ?_
  refine lv_icmp_lt (tgt := 50) hx hb dX4_stepTowards_34 (by decide) (fun c3 => ?_) (fun c3 => ?_)
  · have h := zit c3 h
    refine lv_aload_n hx hb dX4_stepTowards_50 rfl (lv_at hl 2 rfl) ?_
    refine va_get (D := G) (ci := 4) (v := .int t_point) (C := RX4) (T := TX4) (N := 7) hx hb hts iw_X4_stepTowards_X4 hown hK hP 0 rfl rfl 3 (by decide) (hts (.fieldLink RX4 25 "SpireLean$Town" "point" "I") (List.mem_of_getElem? (i := 1) rfl)) (fun _ h9 => h9) rfl dX4_stepTowards_51 ?_
    refine lv_iload_n hx hb dX4_stepTowards_54 rfl (lv_at hl 0 rfl) ?_
    obtain ⟨o1, hv, h⟩ := zb h
    refine z_goi (w2 := [(a_t, .inr (4, [.ref a_t_traits, .int t_draws, .int t_foot, .int t_point, .int t_stiff, .int t_bears, .int t_year]))]) [] (va_runSN (As := [.int ((u1 - u1 / (10 : Int32) * (10 : Int32)) - (t_point - t_point / (10 : Int32) * (10 : Int32)))]) (rest := [.int t_point]) ⟨hx, hb, hml, hown, hts⟩ (c_X5_sign l G k tL tM sK sV H.size ((u1 - u1 / (10 : Int32) * (10 : Int32)) - (t_point - t_point / (10 : Int32) * (10 : Int32))) o1 hv) ⟨va_cnB 1 hts gX4_stepTowards_X5_sign_n80 rfl rfl rfl (hE.1 (.methodLinkNest RX4 80 yX5_sign "SpireLean") (List.mem_of_getElem? (i := 50) rfl)) (hts (.initialized RX5) (List.mem_of_getElem? (i := 7) rfl)) (by decide +kernel) ⟨Nat.le_of_ble_eq_true rfl, Nat.le_of_ble_eq_true rfl⟩, (hts (.static yX5_sign) (List.mem_of_getElem? (i := 6) rfl)), trivial⟩ (z_preS (wc := []) [] hK hE hA hP hD hS (by decide) rfl) rfl rfl hl.1 rfl (lv_room (Nat.le_of_ble_eq_true rfl)) dX4_stepTowards_55 ⟨Nat.le_refl _, Nat.le_refl _⟩) hA hP hD hS rfl rfl rfl rfl (fun H locs hP hD hS => ?_)
    refine lv_iadd hx hb dX4_stepTowards_58 ?_
    have hr := (zs h)
    subst hr
    exact hret H locs ls 59 hP hS dX4_stepTowards_59
  · have h := zif c3 h
    refine lv_aload_n hx hb dX4_stepTowards_37 rfl (lv_at hl 2 rfl) ?_
    refine va_get (D := G) (ci := 4) (v := .int t_point) (C := RX4) (T := TX4) (N := 7) hx hb hts iw_X4_stepTowards_X4 hown hK hP 0 rfl rfl 3 (by decide) (hts (.fieldLink RX4 25 "SpireLean$Town" "point" "I") (List.mem_of_getElem? (i := 1) rfl)) (fun _ h9 => h9) rfl dX4_stepTowards_38 ?_
    refine lv_bipush (v := 10) hx hb dX4_stepTowards_41 (by decide) ?_
    refine lv_iload_n hx hb dX4_stepTowards_43 rfl (lv_at hl 1 rfl) ?_
    obtain ⟨o2, hv, h⟩ := zb h
    refine z_goi (w2 := [(a_t, .inr (4, [.ref a_t_traits, .int t_draws, .int t_foot, .int t_point, .int t_stiff, .int t_bears, .int t_year]))]) [] (va_runSN (As := [.int ((u1 / (10 : Int32)) - (t_point / (10 : Int32)))]) (rest := [.int (10 : Int32), .int t_point]) ⟨hx, hb, hml, hown, hts⟩ (c_X5_sign l G k tL tM sK sV H.size ((u1 / (10 : Int32)) - (t_point / (10 : Int32))) o2 hv) ⟨va_cnB 1 hts gX4_stepTowards_X5_sign_n80 rfl rfl rfl (hE.1 (.methodLinkNest RX4 80 yX5_sign "SpireLean") (List.mem_of_getElem? (i := 50) rfl)) (hts (.initialized RX5) (List.mem_of_getElem? (i := 7) rfl)) (by decide +kernel) ⟨Nat.le_of_ble_eq_true rfl, Nat.le_of_ble_eq_true rfl⟩, (hts (.static yX5_sign) (List.mem_of_getElem? (i := 6) rfl)), trivial⟩ (z_preS (wc := []) [] hK hE hA hP hD hS (by decide) rfl) rfl rfl hl.1 rfl (lv_room (Nat.le_of_ble_eq_true rfl)) dX4_stepTowards_44 ⟨Nat.le_refl _, Nat.le_refl _⟩) hA hP hD hS rfl rfl rfl rfl (fun H locs hP hD hS => ?_)
    refine lv_imul hx hb dX4_stepTowards_47 ?_
    refine lv_iadd hx hb dX4_stepTowards_48 ?_
    have hr := (zs h)
    subst hr
    exact hret H locs ls 49 hP hS dX4_stepTowards_49
theorem iw_X4_nextPoint_X4 : ∀ w ∈ wsX40, w ∈ wsX4_nextPoint := fun _ h => List.mem_cons_of_mem _ (List.mem_append_right _ h)
set_option maxHeartbeats 4000000 in
set_option maxRecDepth 100000 in
theorem c_X4_nextPoint (l : Launch) (G : va_G) (k : Nat → ClassId) (tL tM : Nat) (sK sV : Nat → Nat) (a_t : Nat) (a_t_traits : Nat) (sz : Nat) (t_draws : Int32) (t_foot : Int32) (t_point : Int32) (t_stiff : Int32) (t_bears : Int32) (t_year : Int32) (t_traits : Nat → Int32) (u1 : Int32) (out : Int32) (h : p_X4_nextPoint u1 t_foot t_point t_bears t_traits = some out) : zMi l yX4_nextPoint wsX4_nextPoint 3 63 G k tL tM sK sV [.ref a_t, .int u1] [(a_t, .inr (4, [.ref a_t_traits, .int t_draws, .int t_foot, .int t_point, .int t_stiff, .int t_bears, .int t_year])), (a_t_traits, .inl (k 0, 20, .inl t_traits))] [(a_t, .inr (4, [.ref a_t_traits, .int t_draws, .int t_foot, .int t_point, .int t_stiff, .int t_bears, .int t_year])), (a_t_traits, .inl (k 0, 20, .inl t_traits))] out sz := by
  refine z_meti (cc := cX4_nextPoint) (maxL := 2) (by decide) rfl (Nat.le_of_ble_eq_true rfl) ?_
  intro p e s m below meth c A Q H locs ls hx hb hml hts hown hA hK hE hret hP hD hS hl
  have hown : s.vm.findClass RX4 = some m.cls := hown
  have hl : lv_has ls 2 [(0, .ref a_t), (1, .int u1)] := hl
  unfold p_X4_nextPoint at h
  refine lv_aload_n hx hb dX4_nextPoint_0 rfl (lv_at hl 0 rfl) ?_
  obtain ⟨o1, hv, h⟩ := zb h
  refine z_goi (w2 := [(a_t, .inr (4, [.ref a_t_traits, .int t_draws, .int t_foot, .int t_point, .int t_stiff, .int t_bears, .int t_year])), (a_t_traits, .inl (k 0, 20, .inl t_traits))]) [0] (va_runV (As := []) (rest := []) ⟨hx, hb, hml, hown, hts⟩ (c_X4_isFallen l G k tL tM sK sV a_t a_t_traits H.size t_draws t_foot t_point t_stiff t_bears t_year o1 hv) (cwV 0 hts gX4_nextPoint_X4_isFallen rfl rfl rfl (by decide +kernel) ⟨Nat.le_of_ble_eq_true rfl, Nat.le_of_ble_eq_true rfl⟩) (z_preV (wc := [(a_t, .inr (4, [.ref a_t_traits, .int t_draws, .int t_foot, .int t_point, .int t_stiff, .int t_bears, .int t_year]))]) [0] 0 4 hK hE hA hP hD hS (by decide) rfl rfl rfl) rfl rfl hl.1 rfl (lv_room (Nat.le_of_ble_eq_true rfl)) dX4_nextPoint_1 ⟨Nat.le_refl _, Nat.le_refl _⟩) hA hP hD hS rfl rfl rfl rfl (fun H locs hP hD hS => ?_)
  refine lv_if_eq (tgt := 12) hx hb dX4_nextPoint_4 (by decide) (fun c8 => ?_) (fun c8 => ?_)
  · have h := zit c8 h
    refine lv_aload_n hx hb dX4_nextPoint_12 rfl (lv_at hl 0 rfl) ?_
    refine lv_iload_n hx hb dX4_nextPoint_13 rfl (lv_at hl 1 rfl) ?_
    refine lv_bipush (v := (-4)) hx hb dX4_nextPoint_14 (by decide) ?_
    obtain ⟨e2, hv, h⟩ := zb h
    have hJ3 : ∀ (e2_ : Int32), e2_ = e2 → zW p l e (zR 3 63) s m ([.ref a_t, .int u1] : List Value).toArray below meth c Q 2 A G [(a_t, .inr (4, [.ref a_t_traits, .int t_draws, .int t_foot, .int t_point, .int t_stiff, .int t_bears, .int t_year])), (a_t_traits, .inl (k 0, 20, .inl t_traits))] [] 32 [.int e2_, .ref a_t] := by
      intro e2_ hz
      subst hz
      intro H locs ls hP hD hS hl
      obtain ⟨o7, hv, h⟩ := zb h
      refine z_goi (w2 := [(a_t, .inr (4, [.ref a_t_traits, .int t_draws, .int t_foot, .int t_point, .int t_stiff, .int t_bears, .int t_year])), (a_t_traits, .inl (k 0, 20, .inl t_traits))]) [0] (va_runV (As := [.int e2_]) (rest := []) ⟨hx, hb, hml, hown, hts⟩ (c_X4_stepTowards l G k tL tM sK sV a_t a_t_traits H.size t_draws t_foot t_point t_stiff t_bears t_year e2_ o7 hv) (cwV 1 hts gX4_nextPoint_X4_stepTowards rfl rfl rfl (by decide +kernel) ⟨Nat.le_of_ble_eq_true rfl, Nat.le_of_ble_eq_true rfl⟩) (z_preV (wc := [(a_t, .inr (4, [.ref a_t_traits, .int t_draws, .int t_foot, .int t_point, .int t_stiff, .int t_bears, .int t_year]))]) [0] 0 4 hK hE hA hP hD hS (by decide) rfl rfl rfl) rfl rfl hl.1 rfl (lv_room (Nat.le_of_ble_eq_true rfl)) dX4_nextPoint_32 ⟨Nat.le_refl _, Nat.le_refl _⟩) hA hP hD hS rfl rfl rfl rfl (fun H locs hP hD hS => ?_)
      have hr := (zs h)
      subst hr
      exact hret H locs ls 35 hP hS dX4_nextPoint_35
    clear h
    have h := hv
    refine lv_icmp_ne (tgt := 26) hx hb dX4_nextPoint_16 (by decide) (fun c6 => ?_) (fun c6 => ?_)
    · have h := zif c6 h
      refine lv_aload_n hx hb dX4_nextPoint_26 rfl (lv_at hl 0 rfl) ?_
      refine lv_iload_n hx hb dX4_nextPoint_27 rfl (lv_at hl 1 rfl) ?_
      refine lv_iconst (v := 2) hx hb dX4_nextPoint_28 (by decide) ?_
      obtain ⟨o5, hv, h⟩ := zb h
      refine z_goi (w2 := [(a_t, .inr (4, [.ref a_t_traits, .int t_draws, .int t_foot, .int t_point, .int t_stiff, .int t_bears, .int t_year])), (a_t_traits, .inl (k 0, 20, .inl t_traits))]) [0, 1] (va_runV (As := [.int u1, .int (2 : Int32)]) (rest := [.ref a_t]) ⟨hx, hb, hml, hown, hts⟩ (c_X4_trait l G k tL tM sK sV a_t a_t_traits H.size t_draws t_foot t_point t_stiff t_bears t_year t_traits u1 (2 : Int32) o5 hv) (cwV 2 hts gX4_nextPoint_X4_trait rfl rfl rfl (by decide +kernel) ⟨Nat.le_of_ble_eq_true rfl, Nat.le_of_ble_eq_true rfl⟩) (z_preV (wc := [(a_t, .inr (4, [.ref a_t_traits, .int t_draws, .int t_foot, .int t_point, .int t_stiff, .int t_bears, .int t_year])), (a_t_traits, .inl (k 0, 20, .inl t_traits))]) [0, 1] 0 4 hK hE hA hP hD hS (by decide) rfl rfl rfl) rfl rfl hl.1 rfl (lv_room (Nat.le_of_ble_eq_true rfl)) dX4_nextPoint_29 ⟨Nat.le_refl _, Nat.le_refl _⟩) hA hP hD hS rfl rfl rfl rfl (fun H locs hP hD hS => ?_)
      exact hJ3 _ (zs h) H locs ls hP hD hS (lv_sub hl [] rfl)
    · have h := zit c6 h
      refine lv_aload_n hx hb dX4_nextPoint_19 rfl (lv_at hl 0 rfl) ?_
      refine va_get (D := G) (ci := 4) (v := .int t_foot) (C := RX4) (T := TX4) (N := 7) hx hb hts iw_X4_nextPoint_X4 hown hK hP 0 rfl rfl 2 (by decide) (hts (.fieldLink RX4 22 "SpireLean$Town" "foot" "I") (List.mem_of_getElem? (i := 2) rfl)) (fun _ h9 => h9) rfl dX4_nextPoint_20 ?_
      refine lv_goto (tgt := 32) hx hb dX4_nextPoint_23 (by decide) ?_
      exact hJ3 _ (zs h) H locs ls hP hD hS (lv_sub hl [] rfl)
  · have h := zif c8 h
    refine lv_aload_n hx hb dX4_nextPoint_7 rfl (lv_at hl 0 rfl) ?_
    refine va_get (D := G) (ci := 4) (v := .int t_point) (C := RX4) (T := TX4) (N := 7) hx hb hts iw_X4_nextPoint_X4 hown hK hP 0 rfl rfl 3 (by decide) (hts (.fieldLink RX4 25 "SpireLean$Town" "point" "I") (List.mem_of_getElem? (i := 1) rfl)) (fun _ h9 => h9) rfl dX4_nextPoint_8 ?_
    have hr := (zs h)
    subst hr
    exact hret H locs ls 11 hP hS dX4_nextPoint_11
theorem iw_X4_passYear_X4 : ∀ w ∈ wsX40, w ∈ wsX4_passYear := fun _ h => List.mem_cons_of_mem _ (List.mem_append_right _ h)
set_option maxHeartbeats 4000000 in
set_option maxRecDepth 100000 in
theorem c_X4_passYear (l : Launch) (G : va_G) (k : Nat → ClassId) (tL tM : Nat) (sK sV : Nat → Nat) (a_t : Nat) (a_t_traits : Nat) (sz : Nat) (t_draws : Int32) (t_foot : Int32) (t_point : Int32) (t_stiff : Int32) (t_bears : Int32) (t_year : Int32) (t_traits : Nat → Int32) (out : Int32 × Int32 × Int32) (h : p_X4_passYear t_draws t_foot t_point t_stiff t_bears t_year t_traits = some out) : zMi l yX4_passYear wsX4_passYear 4 84 G k tL tM sK sV [.ref a_t] [(a_t, .inr (4, [.ref a_t_traits, .int t_draws, .int t_foot, .int t_point, .int t_stiff, .int t_bears, .int t_year])), (a_t_traits, .inl (k 0, 20, .inl t_traits))] [(a_t, .inr (4, [.ref a_t_traits, .int t_draws, .int t_foot, .int out.2.1, .int t_stiff, .int t_bears, .int out.2.2])), (a_t_traits, .inl (k 0, 20, .inl t_traits))] out.1 sz := by
  refine z_meti (cc := cX4_passYear) (maxL := 2) (by decide) rfl (Nat.le_of_ble_eq_true rfl) ?_
  intro p e s m below meth c A Q H locs ls hx hb hml hts hown hA hK hE hret hP hD hS hl
  have hown : s.vm.findClass RX4 = some m.cls := hown
  have hl : lv_has ls 2 [(0, .ref a_t)] := hl
  unfold p_X4_passYear at h
  refine lv_aload_n hx hb dX4_passYear_0 rfl (lv_at hl 0 rfl) ?_
  obtain ⟨o1, hv, h⟩ := zb h
  refine z_goi (w2 := [(a_t, .inr (4, [.ref a_t_traits, .int t_draws, .int t_foot, .int t_point, .int t_stiff, .int t_bears, .int t_year])), (a_t_traits, .inl (k 0, 20, .inl t_traits))]) [0, 1] (va_runV (As := []) (rest := []) ⟨hx, hb, hml, hown, hts⟩ (c_X4_holder l G k tL tM sK sV a_t a_t_traits H.size t_draws t_foot t_point t_stiff t_bears t_year t_traits o1 hv) (cwV 0 hts gX4_passYear_X4_holder rfl rfl rfl (by decide +kernel) ⟨Nat.le_of_ble_eq_true rfl, Nat.le_of_ble_eq_true rfl⟩) (z_preV (wc := [(a_t, .inr (4, [.ref a_t_traits, .int t_draws, .int t_foot, .int t_point, .int t_stiff, .int t_bears, .int t_year])), (a_t_traits, .inl (k 0, 20, .inl t_traits))]) [0, 1] 0 4 hK hE hA hP hD hS (by decide) rfl rfl rfl) rfl rfl hl.1 rfl (lv_room (Nat.le_of_ble_eq_true rfl)) dX4_passYear_1 ⟨Nat.le_refl _, Nat.le_refl _⟩) hA hP hD hS rfl rfl rfl rfl (fun H locs hP hD hS => ?_)
  refine lv_istore_n (lv' := [(1, .int o1), (0, .ref a_t)]) hx hb dX4_passYear_4 rfl hl (by decide) rfl (fun ls hl => ?_)
  refine lv_aload_n hx hb dX4_passYear_5 rfl (lv_at hl 1 rfl) ?_
  refine lv_aload_n hx hb dX4_passYear_6 rfl (lv_at hl 1 rfl) ?_
  refine lv_iload_n hx hb dX4_passYear_7 rfl (lv_at hl 0 rfl) ?_
  obtain ⟨o2, hv, h⟩ := zb h
  refine z_goi (w2 := [(a_t, .inr (4, [.ref a_t_traits, .int t_draws, .int t_foot, .int t_point, .int t_stiff, .int t_bears, .int t_year])), (a_t_traits, .inl (k 0, 20, .inl t_traits))]) [0, 1] (va_runV (As := [.int o1]) (rest := [.ref a_t]) ⟨hx, hb, hml, hown, hts⟩ (c_X4_nextPoint l G k tL tM sK sV a_t a_t_traits H.size t_draws t_foot t_point t_stiff t_bears t_year t_traits o1 o2 hv) (cwV 1 hts gX4_passYear_X4_nextPoint rfl rfl rfl (by decide +kernel) ⟨Nat.le_of_ble_eq_true rfl, Nat.le_of_ble_eq_true rfl⟩) (z_preV (wc := [(a_t, .inr (4, [.ref a_t_traits, .int t_draws, .int t_foot, .int t_point, .int t_stiff, .int t_bears, .int t_year])), (a_t_traits, .inl (k 0, 20, .inl t_traits))]) [0, 1] 0 4 hK hE hA hP hD hS (by decide) rfl rfl rfl) rfl rfl hl.1 rfl (lv_room (Nat.le_of_ble_eq_true rfl)) dX4_passYear_8 ⟨Nat.le_refl _, Nat.le_refl _⟩) hA hP hD hS rfl rfl rfl rfl (fun H locs hP hD hS => ?_)
  refine va_put (D := G) (ci := 4) (v := .int o2) (ty := .int) (C := RX4) (T := TX4) (N := 7) hx hb hts iw_X4_passYear_X4 tyX4 tyX4_ok nmX4 hown hK hP hD hS 0 rfl rfl 3 (by decide) (hts (.fieldLink RX4 25 "SpireLean$Town" "point" "I") (List.mem_of_getElem? (i := 1) rfl)) (fun _ h9 => h9) rfl (tyX4_ok 3 (by decide)) rfl rfl (Nat.le_of_ble_eq_true rfl) dX4_passYear_11 (fun H locs hP hD hS => ?_)
  have hP : va_P G vwCl [(a_t, .inr (4, [.ref a_t_traits, .int t_draws, .int t_foot, .int o2, .int t_stiff, .int t_bears, .int t_year])), (a_t_traits, .inl (k 0, 20, .inl t_traits))] H := hP
  have hD : va_D A [(a_t, .inr (4, [.ref a_t_traits, .int t_draws, .int t_foot, .int o2, .int t_stiff, .int t_bears, .int t_year])), (a_t_traits, .inl (k 0, 20, .inl t_traits))] := hD
  refine lv_aload_n hx hb dX4_passYear_14 rfl (lv_at hl 1 rfl) ?_
  refine lv_dup hx hb dX4_passYear_15 rfl ?_
  refine va_get (D := G) (ci := 4) (v := .int t_year) (C := RX4) (T := TX4) (N := 7) hx hb hts iw_X4_passYear_X4 hown hK hP 0 rfl rfl 6 (by decide) (hts (.fieldLink RX4 34 "SpireLean$Town" "year" "I") (List.mem_of_getElem? (i := 2) rfl)) (fun _ h9 => h9) rfl dX4_passYear_16 ?_
  refine lv_iconst (v := 1) hx hb dX4_passYear_19 (by decide) ?_
  refine lv_iadd hx hb dX4_passYear_20 ?_
  refine va_put (D := G) (ci := 4) (v := .int (t_year + (1 : Int32))) (ty := .int) (C := RX4) (T := TX4) (N := 7) hx hb hts iw_X4_passYear_X4 tyX4 tyX4_ok nmX4 hown hK hP hD hS 0 rfl rfl 6 (by decide) (hts (.fieldLink RX4 34 "SpireLean$Town" "year" "I") (List.mem_of_getElem? (i := 2) rfl)) (fun _ h9 => h9) rfl (tyX4_ok 6 (by decide)) rfl rfl (Nat.le_of_ble_eq_true rfl) dX4_passYear_21 (fun H locs hP hD hS => ?_)
  have hP : va_P G vwCl [(a_t, .inr (4, [.ref a_t_traits, .int t_draws, .int t_foot, .int o2, .int t_stiff, .int t_bears, .int (t_year + (1 : Int32))])), (a_t_traits, .inl (k 0, 20, .inl t_traits))] H := hP
  have hD : va_D A [(a_t, .inr (4, [.ref a_t_traits, .int t_draws, .int t_foot, .int o2, .int t_stiff, .int t_bears, .int (t_year + (1 : Int32))])), (a_t_traits, .inl (k 0, 20, .inl t_traits))] := hD
  refine lv_iload_n hx hb dX4_passYear_24 rfl (lv_at hl 0 rfl) ?_
  have hr := (zs h)
  subst hr
  exact hret H locs ls 25 hP hS dX4_passYear_25
theorem iw_X4_isFull_X4 : ∀ w ∈ wsX40, w ∈ wsX4_isFull := fun _ h => List.mem_cons_of_mem _ (List.mem_append_right _ h)
set_option maxHeartbeats 4000000 in
set_option maxRecDepth 100000 in
theorem c_X4_isFull (l : Launch) (G : va_G) (k : Nat → ClassId) (tL tM : Nat) (sK sV : Nat → Nat) (a_t : Nat) (a_t_traits : Nat) (sz : Nat) (t_draws : Int32) (t_foot : Int32) (t_point : Int32) (t_stiff : Int32) (t_bears : Int32) (t_year : Int32) (out : Int32) (h : p_X4_isFull t_draws = some out) : zMi l yX4_isFull wsX4_isFull 0 0 G k tL tM sK sV [.ref a_t] [(a_t, .inr (4, [.ref a_t_traits, .int t_draws, .int t_foot, .int t_point, .int t_stiff, .int t_bears, .int t_year]))] [(a_t, .inr (4, [.ref a_t_traits, .int t_draws, .int t_foot, .int t_point, .int t_stiff, .int t_bears, .int t_year]))] out sz := by
  refine z_metz (cc := cX4_isFull) (maxL := 1) (by decide) rfl (Nat.le_of_ble_eq_true rfl) ?_
  intro p e s m below meth c A Q H locs ls hx hb hml hts hown hA hK hE hret hP hD hS hl
  have hown : s.vm.findClass RX4 = some m.cls := hown
  have hl : lv_has ls 1 [(0, .ref a_t)] := hl
  unfold p_X4_isFull at h
  refine lv_aload_n hx hb dX4_isFull_0 rfl (lv_at hl 0 rfl) ?_
  refine va_get (D := G) (ci := 4) (v := .int t_draws) (C := RX4) (T := TX4) (N := 7) hx hb hts iw_X4_isFull_X4 hown hK hP 0 rfl rfl 1 (by decide) (hts (.fieldLink RX4 18 "SpireLean$Town" "draws" "I") (List.mem_of_getElem? (i := 1) rfl)) (fun _ h9 => h9) rfl dX4_isFull_1 ?_
  refine lv_iconst (v := 5) hx hb dX4_isFull_4 (by decide) ?_
  refine lv_icmp_lt (tgt := 12) hx hb dX4_isFull_5 (by decide) (fun c1 => ?_) (fun c1 => ?_)
  · have h := zit c1 h
    refine lv_iconst (v := 0) hx hb dX4_isFull_12 (by decide) ?_
    have hr := (zs h)
    subst hr
    exact hret H locs ls 13 (Or.inl rfl) hP hS dX4_isFull_13
  · have h := zif c1 h
    refine lv_iconst (v := 1) hx hb dX4_isFull_8 (by decide) ?_
    refine lv_goto (tgt := 13) hx hb dX4_isFull_9 (by decide) ?_
    have hr := (zs h)
    subst hr
    exact hret H locs ls 13 (Or.inr rfl) hP hS dX4_isFull_13
set_option maxHeartbeats 4000000 in
set_option maxRecDepth 100000 in
theorem c_X5_within (l : Launch) (G : va_G) (k : Nat → ClassId) (tL tM : Nat) (sK sV : Nat → Nat) (sz : Nat) (u1 : Int32) (u2 : Int32) (u3 : Int32) (out : Int32) (h : p_X5_within u1 u2 u3 = some out) : zMi l yX5_within wsX5_within 0 0 G k tL tM sK sV [.int u1, .int u2, .int u3] [] [] out sz := by
  refine z_metz (cc := cX5_within) (maxL := 3) (by decide) rfl (Nat.le_of_ble_eq_true rfl) ?_
  intro p e s m below meth c A Q H locs ls hx hb hml hts hown hA hK hE hret hP hD hS hl
  have hown : s.vm.findClass RX5 = some m.cls := hown
  have hl : lv_has ls 3 [(0, .int u1), (1, .int u2), (2, .int u3)] := hl
  unfold p_X5_within at h
  refine lv_iload_n hx hb dX5_within_0 rfl (lv_at hl 0 rfl) ?_
  refine lv_iload_n hx hb dX5_within_1 rfl (lv_at hl 1 rfl) ?_
  refine lv_icmp_lt (tgt := 14) hx hb dX5_within_2 (by decide) (fun c2 => ?_) (fun c2 => ?_)
  · have h := zit c2 h
    refine lv_iconst (v := 0) hx hb dX5_within_14 (by decide) ?_
    have hr := (zs h)
    subst hr
    exact hret H locs ls 15 (Or.inl rfl) hP hS dX5_within_15
  · have h := zif c2 h
    refine lv_iload_n hx hb dX5_within_5 rfl (lv_at hl 0 rfl) ?_
    refine lv_iload_n hx hb dX5_within_6 rfl (lv_at hl 2 rfl) ?_
    refine lv_icmp_gt (tgt := 14) hx hb dX5_within_7 (by decide) (fun c1 => ?_) (fun c1 => ?_)
    · have h := zit c1 h
      refine lv_iconst (v := 0) hx hb dX5_within_14 (by decide) ?_
      have hr := (zs h)
      subst hr
      exact hret H locs ls 15 (Or.inl rfl) hP hS dX5_within_15
    · have h := zif c1 h
      refine lv_iconst (v := 1) hx hb dX5_within_10 (by decide) ?_
      refine lv_goto (tgt := 15) hx hb dX5_within_11 (by decide) ?_
      have hr := (zs h)
      subst hr
      exact hret H locs ls 15 (Or.inr rfl) hP hS dX5_within_15
theorem iw_X4_setTrait_X4 : ∀ w ∈ wsX40, w ∈ wsX4_setTrait := fun _ h => List.mem_cons_of_mem _ (List.mem_append_right _ h)
set_option maxHeartbeats 4000000 in
set_option maxRecDepth 100000 in
theorem c_X4_setTrait (l : Launch) (G : va_G) (k : Nat → ClassId) (tL tM : Nat) (sK sV : Nat → Nat) (a_t : Nat) (a_t_traits : Nat) (sz : Nat) (t_draws : Int32) (t_foot : Int32) (t_point : Int32) (t_stiff : Int32) (t_bears : Int32) (t_year : Int32) (t_traits : Nat → Int32) (u1 : Int32) (u2 : Int32) (u3 : Int32) (out : (Nat → Int32)) (h : p_X4_setTrait u1 u2 u3 t_traits = some out) : zMv l yX4_setTrait wsX4_setTrait 0 0 G k tL tM sK sV [.ref a_t, .int u1, .int u2, .int u3] [(a_t, .inr (4, [.ref a_t_traits, .int t_draws, .int t_foot, .int t_point, .int t_stiff, .int t_bears, .int t_year])), (a_t_traits, .inl (k 0, 20, .inl t_traits))] [(a_t, .inr (4, [.ref a_t_traits, .int t_draws, .int t_foot, .int t_point, .int t_stiff, .int t_bears, .int t_year])), (a_t_traits, .inl (k 0, 20, .inl out))] sz := by
  refine z_metv (cc := cX4_setTrait) (maxL := 4) (by decide) rfl (Nat.le_of_ble_eq_true rfl) ?_
  intro p e s m below meth c A Q H locs ls hx hb hml hts hown hA hK hE hret hP hD hS hl
  have hown : s.vm.findClass RX4 = some m.cls := hown
  have hl : lv_has ls 4 [(0, .ref a_t), (1, .int u1), (2, .int u2), (3, .int u3)] := hl
  unfold p_X4_setTrait at h
  refine lv_aload_n hx hb dX4_setTrait_0 rfl (lv_at hl 0 rfl) ?_
  refine va_get (D := G) (ci := 4) (v := .ref a_t_traits) (C := RX4) (T := TX4) (N := 7) hx hb hts iw_X4_setTrait_X4 hown hK hP 0 rfl rfl 0 (by decide) (hts (.fieldLink RX4 9 "SpireLean$Town" "traits" "[I") (List.mem_of_getElem? (i := 1) rfl)) (fun _ h9 => h9) rfl dX4_setTrait_1 ?_
  refine lv_iconst (v := 4) hx hb dX4_setTrait_4 (by decide) ?_
  refine lv_iload_n hx hb dX4_setTrait_5 rfl (lv_at hl 1 rfl) ?_
  refine lv_imul hx hb dX4_setTrait_6 ?_
  refine lv_iload_n hx hb dX4_setTrait_7 rfl (lv_at hl 2 rfl) ?_
  refine lv_iadd hx hb dX4_setTrait_8 ?_
  refine lv_iload_n hx hb dX4_setTrait_9 rfl (lv_at hl 3 rfl) ?_
  obtain ⟨v1, hv, h⟩ := zb h
  refine z_iast hx hb hK hP hD hS 1 0 rfl rfl hv dX4_setTrait_10 (fun H locs hP hD hS => ?_)
  have hP : va_P G vwCl [(a_t, .inr (4, [.ref a_t_traits, .int t_draws, .int t_foot, .int t_point, .int t_stiff, .int t_bears, .int t_year])), (a_t_traits, .inl (k 0, 20, .inl v1))] H := hP
  have hD : va_D A [(a_t, .inr (4, [.ref a_t_traits, .int t_draws, .int t_foot, .int t_point, .int t_stiff, .int t_bears, .int t_year])), (a_t_traits, .inl (k 0, 20, .inl v1))] := hD
  have hr := (zs h)
  subst hr
  exact hret H locs ls 11 hP hS dX4_setTrait_11
theorem iw_X4_addDraw_X4 : ∀ w ∈ wsX40, w ∈ wsX4_addDraw := fun _ h => List.mem_cons_of_mem _ (List.mem_append_right _ h)
set_option maxHeartbeats 4000000 in
set_option maxRecDepth 100000 in
theorem c_X4_addDraw (l : Launch) (G : va_G) (k : Nat → ClassId) (tL tM : Nat) (sK sV : Nat → Nat) (a_t : Nat) (a_t_traits : Nat) (sz : Nat) (t_draws : Int32) (t_foot : Int32) (t_point : Int32) (t_stiff : Int32) (t_bears : Int32) (t_year : Int32) (t_traits : Nat → Int32) (u1 : Int32) (u2 : Int32) (u3 : Int32) (u4 : Int32) (out : Int32 × (Nat → Int32)) (h : p_X4_addDraw u1 u2 u3 u4 t_draws t_traits = some out) : zMv l yX4_addDraw wsX4_addDraw 1 23 G k tL tM sK sV [.ref a_t, .int u1, .int u2, .int u3, .int u4] [(a_t, .inr (4, [.ref a_t_traits, .int t_draws, .int t_foot, .int t_point, .int t_stiff, .int t_bears, .int t_year])), (a_t_traits, .inl (k 0, 20, .inl t_traits))] [(a_t, .inr (4, [.ref a_t_traits, .int out.1, .int t_foot, .int t_point, .int t_stiff, .int t_bears, .int t_year])), (a_t_traits, .inl (k 0, 20, .inl out.2))] sz := by
  refine z_metv (cc := cX4_addDraw) (maxL := 6) (by decide) rfl (Nat.le_of_ble_eq_true rfl) ?_
  intro p e s m below meth c A Q H locs ls hx hb hml hts hown hA hK hE hret hP hD hS hl
  have hown : s.vm.findClass RX4 = some m.cls := hown
  have hl : lv_has ls 6 [(0, .ref a_t), (1, .int u1), (2, .int u2), (3, .int u3), (4, .int u4)] := hl
  unfold p_X4_addDraw at h
  refine lv_aload_n hx hb dX4_addDraw_0 rfl (lv_at hl 0 rfl) ?_
  obtain ⟨o1, hv, h⟩ := zb h
  refine z_goi (w2 := [(a_t, .inr (4, [.ref a_t_traits, .int t_draws, .int t_foot, .int t_point, .int t_stiff, .int t_bears, .int t_year])), (a_t_traits, .inl (k 0, 20, .inl t_traits))]) [0] (va_runV (As := []) (rest := []) ⟨hx, hb, hml, hown, hts⟩ (c_X4_isFull l G k tL tM sK sV a_t a_t_traits H.size t_draws t_foot t_point t_stiff t_bears t_year o1 hv) (cwV 0 hts gX4_addDraw_X4_isFull rfl rfl rfl (by decide +kernel) ⟨Nat.le_of_ble_eq_true rfl, Nat.le_of_ble_eq_true rfl⟩) (z_preV (wc := [(a_t, .inr (4, [.ref a_t_traits, .int t_draws, .int t_foot, .int t_point, .int t_stiff, .int t_bears, .int t_year]))]) [0] 0 4 hK hE hA hP hD hS (by decide) rfl rfl rfl) rfl rfl hl.1 rfl (lv_room (Nat.le_of_ble_eq_true rfl)) dX4_addDraw_1 ⟨Nat.le_refl _, Nat.le_refl _⟩) hA hP hD hS rfl rfl rfl rfl (fun H locs hP hD hS => ?_)
  refine lv_if_eq (tgt := 8) hx hb dX4_addDraw_4 (by decide) (fun c6 => ?_) (fun c6 => ?_)
  · have h := zit c6 h
    refine lv_aload_n hx hb dX4_addDraw_8 rfl (lv_at hl 0 rfl) ?_
    refine va_get (D := G) (ci := 4) (v := .int t_draws) (C := RX4) (T := TX4) (N := 7) hx hb hts iw_X4_addDraw_X4 hown hK hP 0 rfl rfl 1 (by decide) (hts (.fieldLink RX4 18 "SpireLean$Town" "draws" "I") (List.mem_of_getElem? (i := 1) rfl)) (fun _ h9 => h9) rfl dX4_addDraw_9 ?_
    refine lv_istore (lv' := [(5, .int t_draws), (0, .ref a_t), (1, .int u1), (2, .int u2), (3, .int u3), (4, .int u4)]) hx hb dX4_addDraw_12 hl (by decide) rfl (fun ls hl => ?_)
    refine lv_aload_n hx hb dX4_addDraw_14 rfl (lv_at hl 1 rfl) ?_
    refine lv_dup hx hb dX4_addDraw_15 rfl ?_
    refine va_get (D := G) (ci := 4) (v := .int t_draws) (C := RX4) (T := TX4) (N := 7) hx hb hts iw_X4_addDraw_X4 hown hK hP 0 rfl rfl 1 (by decide) (hts (.fieldLink RX4 18 "SpireLean$Town" "draws" "I") (List.mem_of_getElem? (i := 1) rfl)) (fun _ h9 => h9) rfl dX4_addDraw_16 ?_
    refine lv_iconst (v := 1) hx hb dX4_addDraw_19 (by decide) ?_
    refine lv_iadd hx hb dX4_addDraw_20 ?_
    refine va_put (D := G) (ci := 4) (v := .int (t_draws + (1 : Int32))) (ty := .int) (C := RX4) (T := TX4) (N := 7) hx hb hts iw_X4_addDraw_X4 tyX4 tyX4_ok nmX4 hown hK hP hD hS 0 rfl rfl 1 (by decide) (hts (.fieldLink RX4 18 "SpireLean$Town" "draws" "I") (List.mem_of_getElem? (i := 1) rfl)) (fun _ h9 => h9) rfl (tyX4_ok 1 (by decide)) rfl rfl (Nat.le_of_ble_eq_true rfl) dX4_addDraw_21 (fun H locs hP hD hS => ?_)
    have hP : va_P G vwCl [(a_t, .inr (4, [.ref a_t_traits, .int (t_draws + (1 : Int32)), .int t_foot, .int t_point, .int t_stiff, .int t_bears, .int t_year])), (a_t_traits, .inl (k 0, 20, .inl t_traits))] H := hP
    have hD : va_D A [(a_t, .inr (4, [.ref a_t_traits, .int (t_draws + (1 : Int32)), .int t_foot, .int t_point, .int t_stiff, .int t_bears, .int t_year])), (a_t_traits, .inl (k 0, 20, .inl t_traits))] := hD
    refine lv_aload_n hx hb dX4_addDraw_24 rfl (lv_at hl 1 rfl) ?_
    refine lv_iload hx hb dX4_addDraw_25 (lv_at hl 0 rfl) ?_
    refine lv_iconst (v := 0) hx hb dX4_addDraw_27 (by decide) ?_
    refine lv_iload_n hx hb dX4_addDraw_28 rfl (lv_at hl 2 rfl) ?_
    obtain ⟨o2, hv, h⟩ := zb h
    refine z_gov (w2 := [(a_t, .inr (4, [.ref a_t_traits, .int (t_draws + (1 : Int32)), .int t_foot, .int t_point, .int t_stiff, .int t_bears, .int t_year])), (a_t_traits, .inl (k 0, 20, .inl o2))]) [0, 1] (va_runV (As := [.int t_draws, .int (0 : Int32), .int u1]) (rest := []) ⟨hx, hb, hml, hown, hts⟩ (c_X4_setTrait l G k tL tM sK sV a_t a_t_traits H.size (t_draws + (1 : Int32)) t_foot t_point t_stiff t_bears t_year t_traits t_draws (0 : Int32) u1 o2 hv) (cwV 3 hts gX4_addDraw_X4_setTrait rfl rfl rfl (by decide +kernel) ⟨Nat.le_of_ble_eq_true rfl, Nat.le_of_ble_eq_true rfl⟩) (z_preV (wc := [(a_t, .inr (4, [.ref a_t_traits, .int (t_draws + (1 : Int32)), .int t_foot, .int t_point, .int t_stiff, .int t_bears, .int t_year])), (a_t_traits, .inl (k 0, 20, .inl t_traits))]) [0, 1] 0 4 hK hE hA hP hD hS (by decide) rfl rfl rfl) rfl rfl hl.1 rfl (lv_room (Nat.le_of_ble_eq_true rfl)) dX4_addDraw_29 ⟨Nat.le_refl _, Nat.le_refl _⟩) hA hP hD hS rfl rfl rfl rfl (fun H locs hP hD hS => ?_)
    refine lv_aload_n hx hb dX4_addDraw_32 rfl (lv_at hl 1 rfl) ?_
    refine lv_iload hx hb dX4_addDraw_33 (lv_at hl 0 rfl) ?_
    refine lv_iconst (v := 1) hx hb dX4_addDraw_35 (by decide) ?_
    refine lv_iload_n hx hb dX4_addDraw_36 rfl (lv_at hl 3 rfl) ?_
    obtain ⟨o3, hv, h⟩ := zb h
    refine z_gov (w2 := [(a_t, .inr (4, [.ref a_t_traits, .int (t_draws + (1 : Int32)), .int t_foot, .int t_point, .int t_stiff, .int t_bears, .int t_year])), (a_t_traits, .inl (k 0, 20, .inl o3))]) [0, 1] (va_runV (As := [.int t_draws, .int (1 : Int32), .int u2]) (rest := []) ⟨hx, hb, hml, hown, hts⟩ (c_X4_setTrait l G k tL tM sK sV a_t a_t_traits H.size (t_draws + (1 : Int32)) t_foot t_point t_stiff t_bears t_year o2 t_draws (1 : Int32) u2 o3 hv) (cwV 3 hts gX4_addDraw_X4_setTrait rfl rfl rfl (by decide +kernel) ⟨Nat.le_of_ble_eq_true rfl, Nat.le_of_ble_eq_true rfl⟩) (z_preV (wc := [(a_t, .inr (4, [.ref a_t_traits, .int (t_draws + (1 : Int32)), .int t_foot, .int t_point, .int t_stiff, .int t_bears, .int t_year])), (a_t_traits, .inl (k 0, 20, .inl o2))]) [0, 1] 0 4 hK hE hA hP hD hS (by decide) rfl rfl rfl) rfl rfl hl.1 rfl (lv_room (Nat.le_of_ble_eq_true rfl)) dX4_addDraw_37 ⟨Nat.le_refl _, Nat.le_refl _⟩) hA hP hD hS rfl rfl rfl rfl (fun H locs hP hD hS => ?_)
    refine lv_aload_n hx hb dX4_addDraw_40 rfl (lv_at hl 1 rfl) ?_
    refine lv_iload hx hb dX4_addDraw_41 (lv_at hl 0 rfl) ?_
    refine lv_iconst (v := 2) hx hb dX4_addDraw_43 (by decide) ?_
    refine lv_iload_n hx hb dX4_addDraw_44 rfl (lv_at hl 4 rfl) ?_
    obtain ⟨o4, hv, h⟩ := zb h
    refine z_gov (w2 := [(a_t, .inr (4, [.ref a_t_traits, .int (t_draws + (1 : Int32)), .int t_foot, .int t_point, .int t_stiff, .int t_bears, .int t_year])), (a_t_traits, .inl (k 0, 20, .inl o4))]) [0, 1] (va_runV (As := [.int t_draws, .int (2 : Int32), .int u3]) (rest := []) ⟨hx, hb, hml, hown, hts⟩ (c_X4_setTrait l G k tL tM sK sV a_t a_t_traits H.size (t_draws + (1 : Int32)) t_foot t_point t_stiff t_bears t_year o3 t_draws (2 : Int32) u3 o4 hv) (cwV 3 hts gX4_addDraw_X4_setTrait rfl rfl rfl (by decide +kernel) ⟨Nat.le_of_ble_eq_true rfl, Nat.le_of_ble_eq_true rfl⟩) (z_preV (wc := [(a_t, .inr (4, [.ref a_t_traits, .int (t_draws + (1 : Int32)), .int t_foot, .int t_point, .int t_stiff, .int t_bears, .int t_year])), (a_t_traits, .inl (k 0, 20, .inl o3))]) [0, 1] 0 4 hK hE hA hP hD hS (by decide) rfl rfl rfl) rfl rfl hl.1 rfl (lv_room (Nat.le_of_ble_eq_true rfl)) dX4_addDraw_45 ⟨Nat.le_refl _, Nat.le_refl _⟩) hA hP hD hS rfl rfl rfl rfl (fun H locs hP hD hS => ?_)
    refine lv_aload_n hx hb dX4_addDraw_48 rfl (lv_at hl 1 rfl) ?_
    refine lv_iload hx hb dX4_addDraw_49 (lv_at hl 0 rfl) ?_
    refine lv_iconst (v := 3) hx hb dX4_addDraw_51 (by decide) ?_
    refine lv_iload hx hb dX4_addDraw_52 (lv_at hl 5 rfl) ?_
    obtain ⟨o5, hv, h⟩ := zb h
    refine z_gov (w2 := [(a_t, .inr (4, [.ref a_t_traits, .int (t_draws + (1 : Int32)), .int t_foot, .int t_point, .int t_stiff, .int t_bears, .int t_year])), (a_t_traits, .inl (k 0, 20, .inl o5))]) [0, 1] (va_runV (As := [.int t_draws, .int (3 : Int32), .int u4]) (rest := []) ⟨hx, hb, hml, hown, hts⟩ (c_X4_setTrait l G k tL tM sK sV a_t a_t_traits H.size (t_draws + (1 : Int32)) t_foot t_point t_stiff t_bears t_year o4 t_draws (3 : Int32) u4 o5 hv) (cwV 3 hts gX4_addDraw_X4_setTrait rfl rfl rfl (by decide +kernel) ⟨Nat.le_of_ble_eq_true rfl, Nat.le_of_ble_eq_true rfl⟩) (z_preV (wc := [(a_t, .inr (4, [.ref a_t_traits, .int (t_draws + (1 : Int32)), .int t_foot, .int t_point, .int t_stiff, .int t_bears, .int t_year])), (a_t_traits, .inl (k 0, 20, .inl o4))]) [0, 1] 0 4 hK hE hA hP hD hS (by decide) rfl rfl rfl) rfl rfl hl.1 rfl (lv_room (Nat.le_of_ble_eq_true rfl)) dX4_addDraw_54 ⟨Nat.le_refl _, Nat.le_refl _⟩) hA hP hD hS rfl rfl rfl rfl (fun H locs hP hD hS => ?_)
    have hr := (zs h)
    subst hr
    exact hret H locs ls 57 hP hS dX4_addDraw_57
  · have h := zif c6 h
    have hr := (zs h)
    subst hr
    exact hret H locs ls 7 hP hS dX4_addDraw_7
theorem iw_X4_clear_X4 : ∀ w ∈ wsX40, w ∈ wsX4_clear := fun _ h => List.mem_cons_of_mem _ (List.mem_append_right _ h)
set_option maxHeartbeats 4000000 in
set_option maxRecDepth 100000 in
theorem c_X4_clear (l : Launch) (G : va_G) (k : Nat → ClassId) (tL tM : Nat) (sK sV : Nat → Nat) (a_t : Nat) (a_t_traits : Nat) (sz : Nat) (t_draws : Int32) (t_foot : Int32) (t_point : Int32) (t_stiff : Int32) (t_bears : Int32) (t_year : Int32) (out : Int32 × Int32 × Int32 × Int32 × Int32 × Int32) (h : p_X4_clear = some out) : zMv l yX4_clear wsX4_clear 0 0 G k tL tM sK sV [.ref a_t] [(a_t, .inr (4, [.ref a_t_traits, .int t_draws, .int t_foot, .int t_point, .int t_stiff, .int t_bears, .int t_year]))] [(a_t, .inr (4, [.ref a_t_traits, .int out.1, .int out.2.1, .int out.2.2.1, .int out.2.2.2.1, .int out.2.2.2.2.1, .int out.2.2.2.2.2]))] sz := by
  refine z_metv (cc := cX4_clear) (maxL := 1) (by decide) rfl (Nat.le_of_ble_eq_true rfl) ?_
  intro p e s m below meth c A Q H locs ls hx hb hml hts hown hA hK hE hret hP hD hS hl
  have hown : s.vm.findClass RX4 = some m.cls := hown
  have hl : lv_has ls 1 [(0, .ref a_t)] := hl
  unfold p_X4_clear at h
  refine lv_aload_n hx hb dX4_clear_0 rfl (lv_at hl 0 rfl) ?_
  refine lv_iconst (v := 0) hx hb dX4_clear_1 (by decide) ?_
  refine va_put (D := G) (ci := 4) (v := .int (0 : Int32)) (ty := .int) (C := RX4) (T := TX4) (N := 7) hx hb hts iw_X4_clear_X4 tyX4 tyX4_ok nmX4 hown hK hP hD hS 0 rfl rfl 1 (by decide) (hts (.fieldLink RX4 18 "SpireLean$Town" "draws" "I") (List.mem_of_getElem? (i := 1) rfl)) (fun _ h9 => h9) rfl (tyX4_ok 1 (by decide)) rfl rfl (Nat.le_of_ble_eq_true rfl) dX4_clear_2 (fun H locs hP hD hS => ?_)
  have hP : va_P G vwCl [(a_t, .inr (4, [.ref a_t_traits, .int (0 : Int32), .int t_foot, .int t_point, .int t_stiff, .int t_bears, .int t_year]))] H := hP
  have hD : va_D A [(a_t, .inr (4, [.ref a_t_traits, .int (0 : Int32), .int t_foot, .int t_point, .int t_stiff, .int t_bears, .int t_year]))] := hD
  refine lv_aload_n hx hb dX4_clear_5 rfl (lv_at hl 0 rfl) ?_
  refine lv_bipush (v := 44) hx hb dX4_clear_6 (by decide) ?_
  refine va_put (D := G) (ci := 4) (v := .int (44 : Int32)) (ty := .int) (C := RX4) (T := TX4) (N := 7) hx hb hts iw_X4_clear_X4 tyX4 tyX4_ok nmX4 hown hK hP hD hS 0 rfl rfl 2 (by decide) (hts (.fieldLink RX4 22 "SpireLean$Town" "foot" "I") (List.mem_of_getElem? (i := 2) rfl)) (fun _ h9 => h9) rfl (tyX4_ok 2 (by decide)) rfl rfl (Nat.le_of_ble_eq_true rfl) dX4_clear_8 (fun H locs hP hD hS => ?_)
  have hP : va_P G vwCl [(a_t, .inr (4, [.ref a_t_traits, .int (0 : Int32), .int (44 : Int32), .int t_point, .int t_stiff, .int t_bears, .int t_year]))] H := hP
  have hD : va_D A [(a_t, .inr (4, [.ref a_t_traits, .int (0 : Int32), .int (44 : Int32), .int t_point, .int t_stiff, .int t_bears, .int t_year]))] := hD
  refine lv_aload_n hx hb dX4_clear_11 rfl (lv_at hl 0 rfl) ?_
  refine lv_bipush (v := 44) hx hb dX4_clear_12 (by decide) ?_
  refine va_put (D := G) (ci := 4) (v := .int (44 : Int32)) (ty := .int) (C := RX4) (T := TX4) (N := 7) hx hb hts iw_X4_clear_X4 tyX4 tyX4_ok nmX4 hown hK hP hD hS 0 rfl rfl 3 (by decide) (hts (.fieldLink RX4 25 "SpireLean$Town" "point" "I") (List.mem_of_getElem? (i := 3) rfl)) (fun _ h9 => h9) rfl (tyX4_ok 3 (by decide)) rfl rfl (Nat.le_of_ble_eq_true rfl) dX4_clear_14 (fun H locs hP hD hS => ?_)
  have hP : va_P G vwCl [(a_t, .inr (4, [.ref a_t_traits, .int (0 : Int32), .int (44 : Int32), .int (44 : Int32), .int t_stiff, .int t_bears, .int t_year]))] H := hP
  have hD : va_D A [(a_t, .inr (4, [.ref a_t_traits, .int (0 : Int32), .int (44 : Int32), .int (44 : Int32), .int t_stiff, .int t_bears, .int t_year]))] := hD
  refine lv_aload_n hx hb dX4_clear_17 rfl (lv_at hl 0 rfl) ?_
  refine lv_iconst (v := 2) hx hb dX4_clear_18 (by decide) ?_
  refine va_put (D := G) (ci := 4) (v := .int (2 : Int32)) (ty := .int) (C := RX4) (T := TX4) (N := 7) hx hb hts iw_X4_clear_X4 tyX4 tyX4_ok nmX4 hown hK hP hD hS 0 rfl rfl 4 (by decide) (hts (.fieldLink RX4 28 "SpireLean$Town" "stiff" "I") (List.mem_of_getElem? (i := 4) rfl)) (fun _ h9 => h9) rfl (tyX4_ok 4 (by decide)) rfl rfl (Nat.le_of_ble_eq_true rfl) dX4_clear_19 (fun H locs hP hD hS => ?_)
  have hP : va_P G vwCl [(a_t, .inr (4, [.ref a_t_traits, .int (0 : Int32), .int (44 : Int32), .int (44 : Int32), .int (2 : Int32), .int t_bears, .int t_year]))] H := hP
  have hD : va_D A [(a_t, .inr (4, [.ref a_t_traits, .int (0 : Int32), .int (44 : Int32), .int (44 : Int32), .int (2 : Int32), .int t_bears, .int t_year]))] := hD
  refine lv_aload_n hx hb dX4_clear_22 rfl (lv_at hl 0 rfl) ?_
  refine lv_bipush (v := 9) hx hb dX4_clear_23 (by decide) ?_
  refine va_put (D := G) (ci := 4) (v := .int (9 : Int32)) (ty := .int) (C := RX4) (T := TX4) (N := 7) hx hb hts iw_X4_clear_X4 tyX4 tyX4_ok nmX4 hown hK hP hD hS 0 rfl rfl 5 (by decide) (hts (.fieldLink RX4 31 "SpireLean$Town" "bears" "I") (List.mem_of_getElem? (i := 5) rfl)) (fun _ h9 => h9) rfl (tyX4_ok 5 (by decide)) rfl rfl (Nat.le_of_ble_eq_true rfl) dX4_clear_25 (fun H locs hP hD hS => ?_)
  have hP : va_P G vwCl [(a_t, .inr (4, [.ref a_t_traits, .int (0 : Int32), .int (44 : Int32), .int (44 : Int32), .int (2 : Int32), .int (9 : Int32), .int t_year]))] H := hP
  have hD : va_D A [(a_t, .inr (4, [.ref a_t_traits, .int (0 : Int32), .int (44 : Int32), .int (44 : Int32), .int (2 : Int32), .int (9 : Int32), .int t_year]))] := hD
  refine lv_aload_n hx hb dX4_clear_28 rfl (lv_at hl 0 rfl) ?_
  refine lv_iconst (v := 0) hx hb dX4_clear_29 (by decide) ?_
  refine va_put (D := G) (ci := 4) (v := .int (0 : Int32)) (ty := .int) (C := RX4) (T := TX4) (N := 7) hx hb hts iw_X4_clear_X4 tyX4 tyX4_ok nmX4 hown hK hP hD hS 0 rfl rfl 6 (by decide) (hts (.fieldLink RX4 34 "SpireLean$Town" "year" "I") (List.mem_of_getElem? (i := 6) rfl)) (fun _ h9 => h9) rfl (tyX4_ok 6 (by decide)) rfl rfl (Nat.le_of_ble_eq_true rfl) dX4_clear_30 (fun H locs hP hD hS => ?_)
  have hP : va_P G vwCl [(a_t, .inr (4, [.ref a_t_traits, .int (0 : Int32), .int (44 : Int32), .int (44 : Int32), .int (2 : Int32), .int (9 : Int32), .int (0 : Int32)]))] H := hP
  have hD : va_D A [(a_t, .inr (4, [.ref a_t_traits, .int (0 : Int32), .int (44 : Int32), .int (44 : Int32), .int (2 : Int32), .int (9 : Int32), .int (0 : Int32)]))] := hD
  have hr := (zs h)
  subst hr
  exact hret H locs ls 33 hP hS dX4_clear_33
theorem iw_X4_copyFrom_X4 : ∀ w ∈ wsX40, w ∈ wsX4_copyFrom := fun _ h => List.mem_cons_of_mem _ (List.mem_append_right _ h)
set_option maxHeartbeats 4000000 in
set_option maxRecDepth 100000 in
theorem c_X4_copyFrom (l : Launch) (G : va_G) (k : Nat → ClassId) (tL tM : Nat) (sK sV : Nat → Nat) (a_t : Nat) (a_t_traits : Nat) (a_o : Nat) (a_o_traits : Nat) (sz : Nat) (t_draws : Int32) (t_foot : Int32) (t_point : Int32) (t_stiff : Int32) (t_bears : Int32) (t_year : Int32) (t_traits : Nat → Int32) (o_draws : Int32) (o_foot : Int32) (o_point : Int32) (o_stiff : Int32) (o_bears : Int32) (o_year : Int32) (o_traits : Nat → Int32) (out : Int32 × Int32 × Int32 × Int32 × Int32 × Int32 × (Nat → Int32)) (h : p_X4_copyFrom t_traits o_draws o_foot o_point o_stiff o_bears o_year o_traits = some out) : zMv l yX4_copyFrom wsX4_copyFrom 1 40 G k tL tM sK sV [.ref a_t, .ref a_o] [(a_t, .inr (4, [.ref a_t_traits, .int t_draws, .int t_foot, .int t_point, .int t_stiff, .int t_bears, .int t_year])), (a_t_traits, .inl (k 0, 20, .inl t_traits)), (a_o, .inr (4, [.ref a_o_traits, .int o_draws, .int o_foot, .int o_point, .int o_stiff, .int o_bears, .int o_year])), (a_o_traits, .inl (k 0, 20, .inl o_traits))] [(a_t, .inr (4, [.ref a_t_traits, .int out.1, .int out.2.1, .int out.2.2.1, .int out.2.2.2.1, .int out.2.2.2.2.1, .int out.2.2.2.2.2.1])), (a_t_traits, .inl (k 0, 20, .inl out.2.2.2.2.2.2)), (a_o, .inr (4, [.ref a_o_traits, .int o_draws, .int o_foot, .int o_point, .int o_stiff, .int o_bears, .int o_year])), (a_o_traits, .inl (k 0, 20, .inl o_traits))] sz := by
  refine z_metv (cc := cX4_copyFrom) (maxL := 2) (by decide) rfl (Nat.le_of_ble_eq_true rfl) ?_
  intro p e s m below meth c A Q H locs ls hx hb hml hts hown hA hK hE hret hP hD hS hl
  have hown : s.vm.findClass RX4 = some m.cls := hown
  have hl : lv_has ls 2 [(0, .ref a_t), (1, .ref a_o)] := hl
  unfold p_X4_copyFrom at h
  refine lv_aload_n hx hb dX4_copyFrom_0 rfl (lv_at hl 1 rfl) ?_
  refine va_get (D := G) (ci := 4) (v := .ref a_o_traits) (C := RX4) (T := TX4) (N := 7) hx hb hts iw_X4_copyFrom_X4 hown hK hP 2 rfl rfl 0 (by decide) (hts (.fieldLink RX4 9 "SpireLean$Town" "traits" "[I") (List.mem_of_getElem? (i := 1) rfl)) (fun _ h9 => h9) rfl dX4_copyFrom_1 ?_
  refine lv_iconst (v := 0) hx hb dX4_copyFrom_4 (by decide) ?_
  refine lv_aload_n hx hb dX4_copyFrom_5 rfl (lv_at hl 0 rfl) ?_
  refine va_get (D := G) (ci := 4) (v := .ref a_t_traits) (C := RX4) (T := TX4) (N := 7) hx hb hts iw_X4_copyFrom_X4 hown hK hP 0 rfl rfl 0 (by decide) (hts (.fieldLink RX4 9 "SpireLean$Town" "traits" "[I") (List.mem_of_getElem? (i := 1) rfl)) (fun _ h9 => h9) rfl dX4_copyFrom_6 ?_
  refine lv_iconst (v := 0) hx hb dX4_copyFrom_9 (by decide) ?_
  refine lv_bipush (v := 20) hx hb dX4_copyFrom_10 (by decide) ?_
  refine va_copyi hx hb (hml.trans hl.1.symm) hown (hts (.methodLink RX4 37 arraycopyName) (List.mem_of_getElem? (i := 2) rfl)) (hts (.native arraycopyName) (List.mem_of_getElem? (i := 3) rfl)) (hts (.static arraycopyName) (List.mem_of_getElem? (i := 4) rfl)) (hts (.initialized "java/lang/System") (List.mem_of_getElem? (i := 5) rfl)) hK hP hD hS 3 1 0 0 rfl rfl rfl rfl rfl (by decide) (by decide) (by decide) (by decide) (by decide) (fun _ _ => rfl) (Nat.le_of_ble_eq_true rfl) (Nat.le_of_ble_eq_true rfl) dX4_copyFrom_12 (fun H locs hP hD hS => ?_)
  have hP : va_P G vwCl [(a_t, .inr (4, [.ref a_t_traits, .int t_draws, .int t_foot, .int t_point, .int t_stiff, .int t_bears, .int t_year])), (a_t_traits, .inl (k 0, 20, .inl (va_cpy o_traits t_traits (0 : Int32).toNatClampNeg (0 : Int32).toNatClampNeg (20 : Int32).toNatClampNeg))), (a_o, .inr (4, [.ref a_o_traits, .int o_draws, .int o_foot, .int o_point, .int o_stiff, .int o_bears, .int o_year])), (a_o_traits, .inl (k 0, 20, .inl o_traits))] H := hP
  have hD : va_D A [(a_t, .inr (4, [.ref a_t_traits, .int t_draws, .int t_foot, .int t_point, .int t_stiff, .int t_bears, .int t_year])), (a_t_traits, .inl (k 0, 20, .inl (va_cpy o_traits t_traits (0 : Int32).toNatClampNeg (0 : Int32).toNatClampNeg (20 : Int32).toNatClampNeg))), (a_o, .inr (4, [.ref a_o_traits, .int o_draws, .int o_foot, .int o_point, .int o_stiff, .int o_bears, .int o_year])), (a_o_traits, .inl (k 0, 20, .inl o_traits))] := hD
  refine lv_aload_n hx hb dX4_copyFrom_15 rfl (lv_at hl 0 rfl) ?_
  refine lv_aload_n hx hb dX4_copyFrom_16 rfl (lv_at hl 1 rfl) ?_
  refine va_get (D := G) (ci := 4) (v := .int o_draws) (C := RX4) (T := TX4) (N := 7) hx hb hts iw_X4_copyFrom_X4 hown hK hP 2 rfl rfl 1 (by decide) (hts (.fieldLink RX4 18 "SpireLean$Town" "draws" "I") (List.mem_of_getElem? (i := 6) rfl)) (fun _ h9 => h9) rfl dX4_copyFrom_17 ?_
  refine va_put (D := G) (ci := 4) (v := .int o_draws) (ty := .int) (C := RX4) (T := TX4) (N := 7) hx hb hts iw_X4_copyFrom_X4 tyX4 tyX4_ok nmX4 hown hK hP hD hS 0 rfl rfl 1 (by decide) (hts (.fieldLink RX4 18 "SpireLean$Town" "draws" "I") (List.mem_of_getElem? (i := 6) rfl)) (fun _ h9 => h9) rfl (tyX4_ok 1 (by decide)) rfl rfl (Nat.le_of_ble_eq_true rfl) dX4_copyFrom_20 (fun H locs hP hD hS => ?_)
  have hP : va_P G vwCl [(a_t, .inr (4, [.ref a_t_traits, .int o_draws, .int t_foot, .int t_point, .int t_stiff, .int t_bears, .int t_year])), (a_t_traits, .inl (k 0, 20, .inl (va_cpy o_traits t_traits (0 : Int32).toNatClampNeg (0 : Int32).toNatClampNeg (20 : Int32).toNatClampNeg))), (a_o, .inr (4, [.ref a_o_traits, .int o_draws, .int o_foot, .int o_point, .int o_stiff, .int o_bears, .int o_year])), (a_o_traits, .inl (k 0, 20, .inl o_traits))] H := hP
  have hD : va_D A [(a_t, .inr (4, [.ref a_t_traits, .int o_draws, .int t_foot, .int t_point, .int t_stiff, .int t_bears, .int t_year])), (a_t_traits, .inl (k 0, 20, .inl (va_cpy o_traits t_traits (0 : Int32).toNatClampNeg (0 : Int32).toNatClampNeg (20 : Int32).toNatClampNeg))), (a_o, .inr (4, [.ref a_o_traits, .int o_draws, .int o_foot, .int o_point, .int o_stiff, .int o_bears, .int o_year])), (a_o_traits, .inl (k 0, 20, .inl o_traits))] := hD
  refine lv_aload_n hx hb dX4_copyFrom_23 rfl (lv_at hl 0 rfl) ?_
  refine lv_aload_n hx hb dX4_copyFrom_24 rfl (lv_at hl 1 rfl) ?_
  refine va_get (D := G) (ci := 4) (v := .int o_foot) (C := RX4) (T := TX4) (N := 7) hx hb hts iw_X4_copyFrom_X4 hown hK hP 2 rfl rfl 2 (by decide) (hts (.fieldLink RX4 22 "SpireLean$Town" "foot" "I") (List.mem_of_getElem? (i := 7) rfl)) (fun _ h9 => h9) rfl dX4_copyFrom_25 ?_
  refine va_put (D := G) (ci := 4) (v := .int o_foot) (ty := .int) (C := RX4) (T := TX4) (N := 7) hx hb hts iw_X4_copyFrom_X4 tyX4 tyX4_ok nmX4 hown hK hP hD hS 0 rfl rfl 2 (by decide) (hts (.fieldLink RX4 22 "SpireLean$Town" "foot" "I") (List.mem_of_getElem? (i := 7) rfl)) (fun _ h9 => h9) rfl (tyX4_ok 2 (by decide)) rfl rfl (Nat.le_of_ble_eq_true rfl) dX4_copyFrom_28 (fun H locs hP hD hS => ?_)
  have hP : va_P G vwCl [(a_t, .inr (4, [.ref a_t_traits, .int o_draws, .int o_foot, .int t_point, .int t_stiff, .int t_bears, .int t_year])), (a_t_traits, .inl (k 0, 20, .inl (va_cpy o_traits t_traits (0 : Int32).toNatClampNeg (0 : Int32).toNatClampNeg (20 : Int32).toNatClampNeg))), (a_o, .inr (4, [.ref a_o_traits, .int o_draws, .int o_foot, .int o_point, .int o_stiff, .int o_bears, .int o_year])), (a_o_traits, .inl (k 0, 20, .inl o_traits))] H := hP
  have hD : va_D A [(a_t, .inr (4, [.ref a_t_traits, .int o_draws, .int o_foot, .int t_point, .int t_stiff, .int t_bears, .int t_year])), (a_t_traits, .inl (k 0, 20, .inl (va_cpy o_traits t_traits (0 : Int32).toNatClampNeg (0 : Int32).toNatClampNeg (20 : Int32).toNatClampNeg))), (a_o, .inr (4, [.ref a_o_traits, .int o_draws, .int o_foot, .int o_point, .int o_stiff, .int o_bears, .int o_year])), (a_o_traits, .inl (k 0, 20, .inl o_traits))] := hD
  refine lv_aload_n hx hb dX4_copyFrom_31 rfl (lv_at hl 0 rfl) ?_
  refine lv_aload_n hx hb dX4_copyFrom_32 rfl (lv_at hl 1 rfl) ?_
  refine va_get (D := G) (ci := 4) (v := .int o_point) (C := RX4) (T := TX4) (N := 7) hx hb hts iw_X4_copyFrom_X4 hown hK hP 2 rfl rfl 3 (by decide) (hts (.fieldLink RX4 25 "SpireLean$Town" "point" "I") (List.mem_of_getElem? (i := 8) rfl)) (fun _ h9 => h9) rfl dX4_copyFrom_33 ?_
  refine va_put (D := G) (ci := 4) (v := .int o_point) (ty := .int) (C := RX4) (T := TX4) (N := 7) hx hb hts iw_X4_copyFrom_X4 tyX4 tyX4_ok nmX4 hown hK hP hD hS 0 rfl rfl 3 (by decide) (hts (.fieldLink RX4 25 "SpireLean$Town" "point" "I") (List.mem_of_getElem? (i := 8) rfl)) (fun _ h9 => h9) rfl (tyX4_ok 3 (by decide)) rfl rfl (Nat.le_of_ble_eq_true rfl) dX4_copyFrom_36 (fun H locs hP hD hS => ?_)
  have hP : va_P G vwCl [(a_t, .inr (4, [.ref a_t_traits, .int o_draws, .int o_foot, .int o_point, .int t_stiff, .int t_bears, .int t_year])), (a_t_traits, .inl (k 0, 20, .inl (va_cpy o_traits t_traits (0 : Int32).toNatClampNeg (0 : Int32).toNatClampNeg (20 : Int32).toNatClampNeg))), (a_o, .inr (4, [.ref a_o_traits, .int o_draws, .int o_foot, .int o_point, .int o_stiff, .int o_bears, .int o_year])), (a_o_traits, .inl (k 0, 20, .inl o_traits))] H := hP
  have hD : va_D A [(a_t, .inr (4, [.ref a_t_traits, .int o_draws, .int o_foot, .int o_point, .int t_stiff, .int t_bears, .int t_year])), (a_t_traits, .inl (k 0, 20, .inl (va_cpy o_traits t_traits (0 : Int32).toNatClampNeg (0 : Int32).toNatClampNeg (20 : Int32).toNatClampNeg))), (a_o, .inr (4, [.ref a_o_traits, .int o_draws, .int o_foot, .int o_point, .int o_stiff, .int o_bears, .int o_year])), (a_o_traits, .inl (k 0, 20, .inl o_traits))] := hD
  refine lv_aload_n hx hb dX4_copyFrom_39 rfl (lv_at hl 0 rfl) ?_
  refine lv_aload_n hx hb dX4_copyFrom_40 rfl (lv_at hl 1 rfl) ?_
  refine va_get (D := G) (ci := 4) (v := .int o_stiff) (C := RX4) (T := TX4) (N := 7) hx hb hts iw_X4_copyFrom_X4 hown hK hP 2 rfl rfl 4 (by decide) (hts (.fieldLink RX4 28 "SpireLean$Town" "stiff" "I") (List.mem_of_getElem? (i := 9) rfl)) (fun _ h9 => h9) rfl dX4_copyFrom_41 ?_
  refine va_put (D := G) (ci := 4) (v := .int o_stiff) (ty := .int) (C := RX4) (T := TX4) (N := 7) hx hb hts iw_X4_copyFrom_X4 tyX4 tyX4_ok nmX4 hown hK hP hD hS 0 rfl rfl 4 (by decide) (hts (.fieldLink RX4 28 "SpireLean$Town" "stiff" "I") (List.mem_of_getElem? (i := 9) rfl)) (fun _ h9 => h9) rfl (tyX4_ok 4 (by decide)) rfl rfl (Nat.le_of_ble_eq_true rfl) dX4_copyFrom_44 (fun H locs hP hD hS => ?_)
  have hP : va_P G vwCl [(a_t, .inr (4, [.ref a_t_traits, .int o_draws, .int o_foot, .int o_point, .int o_stiff, .int t_bears, .int t_year])), (a_t_traits, .inl (k 0, 20, .inl (va_cpy o_traits t_traits (0 : Int32).toNatClampNeg (0 : Int32).toNatClampNeg (20 : Int32).toNatClampNeg))), (a_o, .inr (4, [.ref a_o_traits, .int o_draws, .int o_foot, .int o_point, .int o_stiff, .int o_bears, .int o_year])), (a_o_traits, .inl (k 0, 20, .inl o_traits))] H := hP
  have hD : va_D A [(a_t, .inr (4, [.ref a_t_traits, .int o_draws, .int o_foot, .int o_point, .int o_stiff, .int t_bears, .int t_year])), (a_t_traits, .inl (k 0, 20, .inl (va_cpy o_traits t_traits (0 : Int32).toNatClampNeg (0 : Int32).toNatClampNeg (20 : Int32).toNatClampNeg))), (a_o, .inr (4, [.ref a_o_traits, .int o_draws, .int o_foot, .int o_point, .int o_stiff, .int o_bears, .int o_year])), (a_o_traits, .inl (k 0, 20, .inl o_traits))] := hD
  refine lv_aload_n hx hb dX4_copyFrom_47 rfl (lv_at hl 0 rfl) ?_
  refine lv_aload_n hx hb dX4_copyFrom_48 rfl (lv_at hl 1 rfl) ?_
  refine va_get (D := G) (ci := 4) (v := .int o_bears) (C := RX4) (T := TX4) (N := 7) hx hb hts iw_X4_copyFrom_X4 hown hK hP 2 rfl rfl 5 (by decide) (hts (.fieldLink RX4 31 "SpireLean$Town" "bears" "I") (List.mem_of_getElem? (i := 10) rfl)) (fun _ h9 => h9) rfl dX4_copyFrom_49 ?_
  refine va_put (D := G) (ci := 4) (v := .int o_bears) (ty := .int) (C := RX4) (T := TX4) (N := 7) hx hb hts iw_X4_copyFrom_X4 tyX4 tyX4_ok nmX4 hown hK hP hD hS 0 rfl rfl 5 (by decide) (hts (.fieldLink RX4 31 "SpireLean$Town" "bears" "I") (List.mem_of_getElem? (i := 10) rfl)) (fun _ h9 => h9) rfl (tyX4_ok 5 (by decide)) rfl rfl (Nat.le_of_ble_eq_true rfl) dX4_copyFrom_52 (fun H locs hP hD hS => ?_)
  have hP : va_P G vwCl [(a_t, .inr (4, [.ref a_t_traits, .int o_draws, .int o_foot, .int o_point, .int o_stiff, .int o_bears, .int t_year])), (a_t_traits, .inl (k 0, 20, .inl (va_cpy o_traits t_traits (0 : Int32).toNatClampNeg (0 : Int32).toNatClampNeg (20 : Int32).toNatClampNeg))), (a_o, .inr (4, [.ref a_o_traits, .int o_draws, .int o_foot, .int o_point, .int o_stiff, .int o_bears, .int o_year])), (a_o_traits, .inl (k 0, 20, .inl o_traits))] H := hP
  have hD : va_D A [(a_t, .inr (4, [.ref a_t_traits, .int o_draws, .int o_foot, .int o_point, .int o_stiff, .int o_bears, .int t_year])), (a_t_traits, .inl (k 0, 20, .inl (va_cpy o_traits t_traits (0 : Int32).toNatClampNeg (0 : Int32).toNatClampNeg (20 : Int32).toNatClampNeg))), (a_o, .inr (4, [.ref a_o_traits, .int o_draws, .int o_foot, .int o_point, .int o_stiff, .int o_bears, .int o_year])), (a_o_traits, .inl (k 0, 20, .inl o_traits))] := hD
  refine lv_aload_n hx hb dX4_copyFrom_55 rfl (lv_at hl 0 rfl) ?_
  refine lv_aload_n hx hb dX4_copyFrom_56 rfl (lv_at hl 1 rfl) ?_
  refine va_get (D := G) (ci := 4) (v := .int o_year) (C := RX4) (T := TX4) (N := 7) hx hb hts iw_X4_copyFrom_X4 hown hK hP 2 rfl rfl 6 (by decide) (hts (.fieldLink RX4 34 "SpireLean$Town" "year" "I") (List.mem_of_getElem? (i := 11) rfl)) (fun _ h9 => h9) rfl dX4_copyFrom_57 ?_
  refine va_put (D := G) (ci := 4) (v := .int o_year) (ty := .int) (C := RX4) (T := TX4) (N := 7) hx hb hts iw_X4_copyFrom_X4 tyX4 tyX4_ok nmX4 hown hK hP hD hS 0 rfl rfl 6 (by decide) (hts (.fieldLink RX4 34 "SpireLean$Town" "year" "I") (List.mem_of_getElem? (i := 11) rfl)) (fun _ h9 => h9) rfl (tyX4_ok 6 (by decide)) rfl rfl (Nat.le_of_ble_eq_true rfl) dX4_copyFrom_60 (fun H locs hP hD hS => ?_)
  have hP : va_P G vwCl [(a_t, .inr (4, [.ref a_t_traits, .int o_draws, .int o_foot, .int o_point, .int o_stiff, .int o_bears, .int o_year])), (a_t_traits, .inl (k 0, 20, .inl (va_cpy o_traits t_traits (0 : Int32).toNatClampNeg (0 : Int32).toNatClampNeg (20 : Int32).toNatClampNeg))), (a_o, .inr (4, [.ref a_o_traits, .int o_draws, .int o_foot, .int o_point, .int o_stiff, .int o_bears, .int o_year])), (a_o_traits, .inl (k 0, 20, .inl o_traits))] H := hP
  have hD : va_D A [(a_t, .inr (4, [.ref a_t_traits, .int o_draws, .int o_foot, .int o_point, .int o_stiff, .int o_bears, .int o_year])), (a_t_traits, .inl (k 0, 20, .inl (va_cpy o_traits t_traits (0 : Int32).toNatClampNeg (0 : Int32).toNatClampNeg (20 : Int32).toNatClampNeg))), (a_o, .inr (4, [.ref a_o_traits, .int o_draws, .int o_foot, .int o_point, .int o_stiff, .int o_bears, .int o_year])), (a_o_traits, .inl (k 0, 20, .inl o_traits))] := hD
  have hr := (zs h)
  subst hr
  exact hret H locs ls 63 hP hS dX4_copyFrom_63
theorem iw_X4_hasDraw_X4 : ∀ w ∈ wsX40, w ∈ wsX4_hasDraw := fun _ h => List.mem_cons_of_mem _ (List.mem_append_right _ h)
set_option maxHeartbeats 4000000 in
set_option maxRecDepth 100000 in
theorem c_X4_hasDraw (l : Launch) (G : va_G) (k : Nat → ClassId) (tL tM : Nat) (sK sV : Nat → Nat) (a_t : Nat) (a_t_traits : Nat) (sz : Nat) (t_draws : Int32) (t_foot : Int32) (t_point : Int32) (t_stiff : Int32) (t_bears : Int32) (t_year : Int32) (u1 : Int32) (out : Int32) (h : p_X4_hasDraw u1 t_draws = some out) : zMi l yX4_hasDraw wsX4_hasDraw 0 0 G k tL tM sK sV [.ref a_t, .int u1] [(a_t, .inr (4, [.ref a_t_traits, .int t_draws, .int t_foot, .int t_point, .int t_stiff, .int t_bears, .int t_year]))] [(a_t, .inr (4, [.ref a_t_traits, .int t_draws, .int t_foot, .int t_point, .int t_stiff, .int t_bears, .int t_year]))] out sz := by
  refine z_metz (cc := cX4_hasDraw) (maxL := 2) (by decide) rfl (Nat.le_of_ble_eq_true rfl) ?_
  intro p e s m below meth c A Q H locs ls hx hb hml hts hown hA hK hE hret hP hD hS hl
  have hown : s.vm.findClass RX4 = some m.cls := hown
  have hl : lv_has ls 2 [(0, .ref a_t), (1, .int u1)] := hl
  unfold p_X4_hasDraw at h
  refine lv_iload_n hx hb dX4_hasDraw_0 rfl (lv_at hl 1 rfl) ?_
  refine lv_if_lt (tgt := 16) hx hb dX4_hasDraw_1 (by decide) (fun c2 => ?_) (fun c2 => ?_)
  · have h := zit c2 h
    refine lv_iconst (v := 0) hx hb dX4_hasDraw_16 (by decide) ?_
    have hr := (zs h)
    subst hr
    exact hret H locs ls 17 (Or.inl rfl) hP hS dX4_hasDraw_17
  · have h := zif c2 h
    refine lv_iload_n hx hb dX4_hasDraw_4 rfl (lv_at hl 1 rfl) ?_
    refine lv_aload_n hx hb dX4_hasDraw_5 rfl (lv_at hl 0 rfl) ?_
    refine va_get (D := G) (ci := 4) (v := .int t_draws) (C := RX4) (T := TX4) (N := 7) hx hb hts iw_X4_hasDraw_X4 hown hK hP 0 rfl rfl 1 (by decide) (hts (.fieldLink RX4 18 "SpireLean$Town" "draws" "I") (List.mem_of_getElem? (i := 1) rfl)) (fun _ h9 => h9) rfl dX4_hasDraw_6 ?_
    refine lv_icmp_ge (tgt := 16) hx hb dX4_hasDraw_9 (by decide) (fun c1 => ?_) (fun c1 => ?_)
    · have h := zit c1 h
      refine lv_iconst (v := 0) hx hb dX4_hasDraw_16 (by decide) ?_
      have hr := (zs h)
      subst hr
      exact hret H locs ls 17 (Or.inl rfl) hP hS dX4_hasDraw_17
    · have h := zif c1 h
      refine lv_iconst (v := 1) hx hb dX4_hasDraw_12 (by decide) ?_
      refine lv_goto (tgt := 17) hx hb dX4_hasDraw_13 (by decide) ?_
      have hr := (zs h)
      subst hr
      exact hret H locs ls 17 (Or.inr rfl) hP hS dX4_hasDraw_17
theorem iw_X4_gap_X4 : ∀ w ∈ wsX40, w ∈ wsX4_gap := fun _ h => List.mem_cons_of_mem _ (List.mem_append_right _ h)
set_option maxHeartbeats 4000000 in
set_option maxRecDepth 100000 in
theorem c_X4_gap (l : Launch) (G : va_G) (k : Nat → ClassId) (tL tM : Nat) (sK sV : Nat → Nat) (a_t : Nat) (a_t_traits : Nat) (sz : Nat) (t_draws : Int32) (t_foot : Int32) (t_point : Int32) (t_stiff : Int32) (t_bears : Int32) (t_year : Int32) (t_traits : Nat → Int32) (u1 : Int32) (out : Int32) (h : p_X4_gap u1 t_point t_traits = some out) : zMi l yX4_gap wsX4_gap 1 23 G k tL tM sK sV [.ref a_t, .int u1] [(a_t, .inr (4, [.ref a_t_traits, .int t_draws, .int t_foot, .int t_point, .int t_stiff, .int t_bears, .int t_year])), (a_t_traits, .inl (k 0, 20, .inl t_traits))] [(a_t, .inr (4, [.ref a_t_traits, .int t_draws, .int t_foot, .int t_point, .int t_stiff, .int t_bears, .int t_year])), (a_t_traits, .inl (k 0, 20, .inl t_traits))] out sz := by
  refine z_meti (cc := cX4_gap) (maxL := 2) (by decide) rfl (Nat.le_of_ble_eq_true rfl) ?_
  intro p e s m below meth c A Q H locs ls hx hb hml hts hown hA hK hE hret hP hD hS hl
  have hown : s.vm.findClass RX4 = some m.cls := hown
  have hl : lv_has ls 2 [(0, .ref a_t), (1, .int u1)] := hl
  unfold p_X4_gap at h
  refine lv_aload_n hx hb dX4_gap_0 rfl (lv_at hl 0 rfl) ?_
  refine lv_iload_n hx hb dX4_gap_1 rfl (lv_at hl 1 rfl) ?_
  refine lv_iconst (v := 2) hx hb dX4_gap_2 (by decide) ?_
  obtain ⟨o1, hv, h⟩ := zb h
  refine z_goi (w2 := [(a_t, .inr (4, [.ref a_t_traits, .int t_draws, .int t_foot, .int t_point, .int t_stiff, .int t_bears, .int t_year])), (a_t_traits, .inl (k 0, 20, .inl t_traits))]) [0, 1] (va_runV (As := [.int u1, .int (2 : Int32)]) (rest := []) ⟨hx, hb, hml, hown, hts⟩ (c_X4_trait l G k tL tM sK sV a_t a_t_traits H.size t_draws t_foot t_point t_stiff t_bears t_year t_traits u1 (2 : Int32) o1 hv) (cwV 2 hts gX4_gap_X4_trait rfl rfl rfl (by decide +kernel) ⟨Nat.le_of_ble_eq_true rfl, Nat.le_of_ble_eq_true rfl⟩) (z_preV (wc := [(a_t, .inr (4, [.ref a_t_traits, .int t_draws, .int t_foot, .int t_point, .int t_stiff, .int t_bears, .int t_year])), (a_t_traits, .inl (k 0, 20, .inl t_traits))]) [0, 1] 0 4 hK hE hA hP hD hS (by decide) rfl rfl rfl) rfl rfl hl.1 rfl (lv_room (Nat.le_of_ble_eq_true rfl)) dX4_gap_3 ⟨Nat.le_refl _, Nat.le_refl _⟩) hA hP hD hS rfl rfl rfl rfl (fun H locs hP hD hS => ?_)
  refine lv_aload_n hx hb dX4_gap_6 rfl (lv_at hl 0 rfl) ?_
  refine va_get (D := G) (ci := 4) (v := .int t_point) (C := RX4) (T := TX4) (N := 7) hx hb hts iw_X4_gap_X4 hown hK hP 0 rfl rfl 3 (by decide) (hts (.fieldLink RX4 25 "SpireLean$Town" "point" "I") (List.mem_of_getElem? (i := 1) rfl)) (fun _ h9 => h9) rfl dX4_gap_7 ?_
  obtain ⟨o2, hv, h⟩ := zb h
  refine z_goi (w2 := [(a_t, .inr (4, [.ref a_t_traits, .int t_draws, .int t_foot, .int t_point, .int t_stiff, .int t_bears, .int t_year])), (a_t_traits, .inl (k 0, 20, .inl t_traits))]) [] (va_runSN (As := [.int o1, .int t_point]) (rest := []) ⟨hx, hb, hml, hown, hts⟩ (c_X5_far l G k tL tM sK sV H.size o1 t_point o2 hv) ⟨va_cnB 2 hts gX4_gap_X5_far_n55 rfl rfl rfl (hE.1 (.methodLinkNest RX4 55 yX5_far "SpireLean") (List.mem_of_getElem? (i := 37) rfl)) (hts (.initialized RX5) (List.mem_of_getElem? (i := 9) rfl)) (by decide +kernel) ⟨Nat.le_of_ble_eq_true rfl, Nat.le_of_ble_eq_true rfl⟩, (hts (.static yX5_far) (List.mem_of_getElem? (i := 8) rfl)), trivial⟩ (z_preS (wc := []) [] hK hE hA hP hD hS (by decide) rfl) rfl rfl hl.1 rfl (lv_room (Nat.le_of_ble_eq_true rfl)) dX4_gap_10 ⟨Nat.le_refl _, Nat.le_refl _⟩) hA hP hD hS rfl rfl rfl rfl (fun H locs hP hD hS => ?_)
  have hr := (zs h)
  subst hr
  exact hret H locs ls 13 hP hS dX4_gap_13
theorem iw_X4_pullBack_X4 : ∀ w ∈ wsX40, w ∈ wsX4_pullBack := fun _ h => List.mem_cons_of_mem _ (List.mem_append_right _ h)
set_option maxHeartbeats 4000000 in
set_option maxRecDepth 100000 in
theorem c_X4_pullBack (l : Launch) (G : va_G) (k : Nat → ClassId) (tL tM : Nat) (sK sV : Nat → Nat) (a_t : Nat) (a_t_traits : Nat) (sz : Nat) (t_draws : Int32) (t_foot : Int32) (t_point : Int32) (t_stiff : Int32) (t_bears : Int32) (t_year : Int32) (out : Int32) (h : p_X4_pullBack t_foot t_point t_stiff = some out) : zMi l yX4_pullBack wsX4_pullBack 2 43 G k tL tM sK sV [.ref a_t] [(a_t, .inr (4, [.ref a_t_traits, .int t_draws, .int t_foot, .int t_point, .int t_stiff, .int t_bears, .int t_year]))] [(a_t, .inr (4, [.ref a_t_traits, .int t_draws, .int t_foot, .int t_point, .int t_stiff, .int t_bears, .int t_year]))] out sz := by
  refine z_meti (cc := cX4_pullBack) (maxL := 1) (by decide) rfl (Nat.le_of_ble_eq_true rfl) ?_
  intro p e s m below meth c A Q H locs ls hx hb hml hts hown hA hK hE hret hP hD hS hl
  have hown : s.vm.findClass RX4 = some m.cls := hown
  have hl : lv_has ls 1 [(0, .ref a_t)] := hl
  unfold p_X4_pullBack at h
  refine lv_aload_n hx hb dX4_pullBack_0 rfl (lv_at hl 0 rfl) ?_
  refine va_get (D := G) (ci := 4) (v := .int t_stiff) (C := RX4) (T := TX4) (N := 7) hx hb hts iw_X4_pullBack_X4 hown hK hP 0 rfl rfl 4 (by decide) (hts (.fieldLink RX4 28 "SpireLean$Town" "stiff" "I") (List.mem_of_getElem? (i := 1) rfl)) (fun _ h9 => h9) rfl dX4_pullBack_1 ?_
  refine lv_aload_n hx hb dX4_pullBack_4 rfl (lv_at hl 0 rfl) ?_
  obtain ⟨o1, hv, h⟩ := zb h
  refine z_goi (w2 := [(a_t, .inr (4, [.ref a_t_traits, .int t_draws, .int t_foot, .int t_point, .int t_stiff, .int t_bears, .int t_year]))]) [0] (va_runV (As := []) (rest := [.int t_stiff]) ⟨hx, hb, hml, hown, hts⟩ (c_X4_lean l G k tL tM sK sV a_t a_t_traits H.size t_draws t_foot t_point t_stiff t_bears t_year o1 hv) (cwV 0 hts gX4_pullBack_X4_lean rfl rfl rfl (by decide +kernel) ⟨Nat.le_of_ble_eq_true rfl, Nat.le_of_ble_eq_true rfl⟩) (z_preV (wc := [(a_t, .inr (4, [.ref a_t_traits, .int t_draws, .int t_foot, .int t_point, .int t_stiff, .int t_bears, .int t_year]))]) [0] 0 4 hK hE hA hP hD hS (by decide) rfl rfl rfl) rfl rfl hl.1 rfl (lv_room (Nat.le_of_ble_eq_true rfl)) dX4_pullBack_5 ⟨Nat.le_refl _, Nat.le_refl _⟩) hA hP hD hS rfl rfl rfl rfl (fun H locs hP hD hS => ?_)
  refine lv_imul hx hb dX4_pullBack_8 ?_
  have hr := (zs h)
  subst hr
  exact hret H locs ls 9 hP hS dX4_pullBack_9
set_option maxHeartbeats 4000000 in
set_option maxRecDepth 100000 in
theorem c_X4_passYears (l : Launch) (G : va_G) (k : Nat → ClassId) (tL tM : Nat) (sK sV : Nat → Nat) (a_t : Nat) (a_t_traits : Nat) (sz : Nat) (t_draws : Int32) (t_foot : Int32) (t_point : Int32) (t_stiff : Int32) (t_bears : Int32) (t_year : Int32) (t_traits : Nat → Int32) (u1 : Int32) (out : Int32 × Int32) (h : p_X4_passYears u1 t_draws t_foot t_point t_stiff t_bears t_year t_traits = some out) : zMv l yX4_passYears wsX4_passYears 5 105 G k tL tM sK sV [.ref a_t, .int u1] [(a_t, .inr (4, [.ref a_t_traits, .int t_draws, .int t_foot, .int t_point, .int t_stiff, .int t_bears, .int t_year])), (a_t_traits, .inl (k 0, 20, .inl t_traits))] [(a_t, .inr (4, [.ref a_t_traits, .int t_draws, .int t_foot, .int out.1, .int t_stiff, .int t_bears, .int out.2])), (a_t_traits, .inl (k 0, 20, .inl t_traits))] sz := by
  refine z_metv (cc := cX4_passYears) (maxL := 3) (by decide) rfl (Nat.le_of_ble_eq_true rfl) ?_
  intro p e s m below meth c A Q H locs ls hx hb hml hts hown hA hK hE hret hP hD hS hl
  have hown : s.vm.findClass RX4 = some m.cls := hown
  have hl : lv_has ls 3 [(0, .ref a_t), (1, .int u1)] := hl
  unfold p_X4_passYears at h
  refine lv_iconst (v := 0) hx hb dX4_passYears_0 (by decide) ?_
  refine lv_istore_n (lv' := [(2, .int (0 : Int32)), (0, .ref a_t), (1, .int u1)]) hx hb dX4_passYears_1 rfl hl (by decide) rfl (fun ls hl => ?_)
  obtain ⟨e5, hv, h⟩ := zb h
  have hJ4 : ∀ (e5_ : Int32 × Int32), e5_ = e5 → zW p l e (zR 5 105) s m ([.ref a_t, .int u1] : List Value).toArray below meth c Q 3 A G [(a_t, .inr (4, [.ref a_t_traits, .int t_draws, .int t_foot, .int e5_.1, .int t_stiff, .int t_bears, .int e5_.2])), (a_t_traits, .inl (k 0, 20, .inl t_traits))] [] 18 [] := by
    intro e5_ hz
    subst hz
    intro H locs ls hP hD hS hl
    have hr := (zs h)
    subst hr
    exact hret H locs ls 18 hP hS dX4_passYears_18
  refine z_lpW (Wh := fun (x1 : Int32 × Int32 × Int32) => zW p l e (zR 5 105) s m ([.ref a_t, .int u1] : List Value).toArray below meth c Q 3 A G [(a_t, .inr (4, [.ref a_t_traits, .int t_draws, .int t_foot, .int x1.2.1, .int t_stiff, .int t_bears, .int x1.2.2])), (a_t_traits, .inl (k 0, 20, .inl t_traits))] [(0, .ref a_t), (1, .int u1), (2, .int x1.1)] 2 []) ?_ 1000 _ hv H locs ls hP hD hS (lv_sub hl [1, 2, 0] rfl)
  clear h
  intro x1 o h hC2 hX3 H locs ls hP hD hS hl
  unfold p_X4_passYears_b2 at h
  refine lv_iload_n hx hb dX4_passYears_2 rfl (lv_at hl 2 rfl) ?_
  refine lv_iload_n hx hb dX4_passYears_3 rfl (lv_at hl 1 rfl) ?_
  refine lv_icmp_ge (tgt := 18) hx hb dX4_passYears_4 (by decide) (fun c8 => ?_) (fun c8 => ?_)
  · have h := zit c8 h
    exact hJ4 _ (hX3 _ (zs h)) H locs ls hP hD hS (lv_sub hl [] rfl)
  · have h := zif c8 h
    refine lv_aload_n hx hb dX4_passYears_7 rfl (lv_at hl 0 rfl) ?_
    obtain ⟨o7, hv, h⟩ := zb h
    refine z_goi (w2 := [(a_t, .inr (4, [.ref a_t_traits, .int t_draws, .int t_foot, .int o7.2.1, .int t_stiff, .int t_bears, .int o7.2.2])), (a_t_traits, .inl (k 0, 20, .inl t_traits))]) [0, 1] (va_runV (As := []) (rest := []) ⟨hx, hb, hml, hown, hts⟩ (c_X4_passYear l G k tL tM sK sV a_t a_t_traits H.size t_draws t_foot x1.2.1 t_stiff t_bears x1.2.2 t_traits o7 hv) (cwV 0 hts gX4_passYears_X4_passYear rfl rfl rfl (by decide +kernel) ⟨Nat.le_of_ble_eq_true rfl, Nat.le_of_ble_eq_true rfl⟩) (z_preV (wc := [(a_t, .inr (4, [.ref a_t_traits, .int t_draws, .int t_foot, .int x1.2.1, .int t_stiff, .int t_bears, .int x1.2.2])), (a_t_traits, .inl (k 0, 20, .inl t_traits))]) [0, 1] 0 4 hK hE hA hP hD hS (by decide) rfl rfl rfl) rfl rfl hl.1 rfl (lv_room (Nat.le_of_ble_eq_true rfl)) dX4_passYears_8 ⟨Nat.le_refl _, Nat.le_refl _⟩) hA hP hD hS rfl rfl rfl rfl (fun H locs hP hD hS => ?_)
    refine lv_pop hx hb dX4_passYears_11 rfl ?_
    refine lv_iinc (v := x1.1 + (1 : Int32)) (lv' := [(2, .int (x1.1 + (1 : Int32))), (0, .ref a_t), (1, .int u1)]) hx hb dX4_passYears_12 hl (k := 2) rfl rfl (by decide) rfl (fun ls hl => ?_)
    refine lv_goto (tgt := 2) hx hb dX4_passYears_15 (by decide) ?_
    exact hC2 _ (zs h) H locs ls hP hD hS (lv_sub hl [1, 2, 0] rfl)
set_option maxHeartbeats 4000000 in
set_option maxRecDepth 100000 in
theorem c_X4_greatestLean (l : Launch) (G : va_G) (k : Nat → ClassId) (tL tM : Nat) (sK sV : Nat → Nat) (a_t : Nat) (a_t_traits : Nat) (sz : Nat) (t_draws : Int32) (t_foot : Int32) (t_point : Int32) (t_stiff : Int32) (t_bears : Int32) (t_year : Int32) (t_traits : Nat → Int32) (u1 : Int32) (out : Int32 × Int32 × Int32) (h : p_X4_greatestLean u1 t_draws t_foot t_point t_stiff t_bears t_year t_traits = some out) : zMi l yX4_greatestLean wsX4_greatestLean 5 105 G k tL tM sK sV [.ref a_t, .int u1] [(a_t, .inr (4, [.ref a_t_traits, .int t_draws, .int t_foot, .int t_point, .int t_stiff, .int t_bears, .int t_year])), (a_t_traits, .inl (k 0, 20, .inl t_traits))] [(a_t, .inr (4, [.ref a_t_traits, .int t_draws, .int t_foot, .int out.2.1, .int t_stiff, .int t_bears, .int out.2.2])), (a_t_traits, .inl (k 0, 20, .inl t_traits))] out.1 sz := by
  refine z_meti (cc := cX4_greatestLean) (maxL := 4) (by decide) rfl (Nat.le_of_ble_eq_true rfl) ?_
  intro p e s m below meth c A Q H locs ls hx hb hml hts hown hA hK hE hret hP hD hS hl
  have hown : s.vm.findClass RX4 = some m.cls := hown
  have hl : lv_has ls 4 [(0, .ref a_t), (1, .int u1)] := hl
  unfold p_X4_greatestLean at h
  refine lv_aload_n hx hb dX4_greatestLean_0 rfl (lv_at hl 0 rfl) ?_
  obtain ⟨o1, hv, h⟩ := zb h
  refine z_goi (w2 := [(a_t, .inr (4, [.ref a_t_traits, .int t_draws, .int t_foot, .int t_point, .int t_stiff, .int t_bears, .int t_year])), (a_t_traits, .inl (k 0, 20, .inl t_traits))]) [0] (va_runV (As := []) (rest := []) ⟨hx, hb, hml, hown, hts⟩ (c_X4_lean l G k tL tM sK sV a_t a_t_traits H.size t_draws t_foot t_point t_stiff t_bears t_year o1 hv) (cwV 0 hts gX4_greatestLean_X4_lean rfl rfl rfl (by decide +kernel) ⟨Nat.le_of_ble_eq_true rfl, Nat.le_of_ble_eq_true rfl⟩) (z_preV (wc := [(a_t, .inr (4, [.ref a_t_traits, .int t_draws, .int t_foot, .int t_point, .int t_stiff, .int t_bears, .int t_year]))]) [0] 0 4 hK hE hA hP hD hS (by decide) rfl rfl rfl) rfl rfl hl.1 rfl (lv_room (Nat.le_of_ble_eq_true rfl)) dX4_greatestLean_1 ⟨Nat.le_refl _, Nat.le_refl _⟩) hA hP hD hS rfl rfl rfl rfl (fun H locs hP hD hS => ?_)
  refine lv_istore_n (lv' := [(2, .int o1), (0, .ref a_t), (1, .int u1)]) hx hb dX4_greatestLean_4 rfl hl (by decide) rfl (fun ls hl => ?_)
  refine lv_iconst (v := 0) hx hb dX4_greatestLean_5 (by decide) ?_
  refine lv_istore_n (lv' := [(3, .int (0 : Int32)), (2, .int o1), (0, .ref a_t), (1, .int u1)]) hx hb dX4_greatestLean_6 rfl hl (by decide) rfl (fun ls hl => ?_)
  obtain ⟨e6, hv, h⟩ := zb h
  have hJ5 : ∀ (e6_ : Int32 × Int32 × Int32), e6_ = e6 → zW p l e (zR 5 105) s m ([.ref a_t, .int u1] : List Value).toArray below meth c Q 4 A G [(a_t, .inr (4, [.ref a_t_traits, .int t_draws, .int t_foot, .int e6_.2.1, .int t_stiff, .int t_bears, .int e6_.2.2])), (a_t_traits, .inl (k 0, 20, .inl t_traits))] [(2, .int e6_.1)] 32 [] := by
    intro e6_ hz
    subst hz
    intro H locs ls hP hD hS hl
    refine lv_iload_n hx hb dX4_greatestLean_32 rfl (lv_at hl 0 rfl) ?_
    have hr := (zs h)
    subst hr
    exact hret H locs ls 33 hP hS dX4_greatestLean_33
  refine z_lpW (Wh := fun (x2 : Int32 × Int32 × Int32 × Int32) => zW p l e (zR 5 105) s m ([.ref a_t, .int u1] : List Value).toArray below meth c Q 4 A G [(a_t, .inr (4, [.ref a_t_traits, .int t_draws, .int t_foot, .int x2.2.2.1, .int t_stiff, .int t_bears, .int x2.2.2.2])), (a_t_traits, .inl (k 0, 20, .inl t_traits))] [(0, .ref a_t), (1, .int u1), (2, .int x2.1), (3, .int x2.2.1)] 7 []) ?_ 1000 _ hv H locs ls hP hD hS (lv_sub hl [2, 3, 1, 0] rfl)
  clear h
  intro x2 o h hC3 hX4 H locs ls hP hD hS hl
  unfold p_X4_greatestLean_b7 at h
  refine lv_iload_n hx hb dX4_greatestLean_7 rfl (lv_at hl 3 rfl) ?_
  refine lv_iload_n hx hb dX4_greatestLean_8 rfl (lv_at hl 1 rfl) ?_
  refine lv_icmp_ge (tgt := 32) hx hb dX4_greatestLean_9 (by decide) (fun c10 => ?_) (fun c10 => ?_)
  · have h := zit c10 h
    exact hJ5 _ (hX4 _ (zs h)) H locs ls hP hD hS (lv_sub hl [2] rfl)
  · have h := zif c10 h
    refine lv_aload_n hx hb dX4_greatestLean_12 rfl (lv_at hl 0 rfl) ?_
    obtain ⟨o8, hv, h⟩ := zb h
    refine z_goi (w2 := [(a_t, .inr (4, [.ref a_t_traits, .int t_draws, .int t_foot, .int o8.2.1, .int t_stiff, .int t_bears, .int o8.2.2])), (a_t_traits, .inl (k 0, 20, .inl t_traits))]) [0, 1] (va_runV (As := []) (rest := []) ⟨hx, hb, hml, hown, hts⟩ (c_X4_passYear l G k tL tM sK sV a_t a_t_traits H.size t_draws t_foot x2.2.2.1 t_stiff t_bears x2.2.2.2 t_traits o8 hv) (cwV 0 hts gX4_greatestLean_X4_passYear rfl rfl rfl (by decide +kernel) ⟨Nat.le_of_ble_eq_true rfl, Nat.le_of_ble_eq_true rfl⟩) (z_preV (wc := [(a_t, .inr (4, [.ref a_t_traits, .int t_draws, .int t_foot, .int x2.2.2.1, .int t_stiff, .int t_bears, .int x2.2.2.2])), (a_t_traits, .inl (k 0, 20, .inl t_traits))]) [0, 1] 0 4 hK hE hA hP hD hS (by decide) rfl rfl rfl) rfl rfl hl.1 rfl (lv_room (Nat.le_of_ble_eq_true rfl)) dX4_greatestLean_13 ⟨Nat.le_refl _, Nat.le_refl _⟩) hA hP hD hS rfl rfl rfl rfl (fun H locs hP hD hS => ?_)
    refine lv_pop hx hb dX4_greatestLean_16 rfl ?_
    refine lv_iload_n hx hb dX4_greatestLean_17 rfl (lv_at hl 2 rfl) ?_
    refine lv_aload_n hx hb dX4_greatestLean_18 rfl (lv_at hl 0 rfl) ?_
    obtain ⟨o9, hv, h⟩ := zb h
    refine z_goi (w2 := [(a_t, .inr (4, [.ref a_t_traits, .int t_draws, .int t_foot, .int o8.2.1, .int t_stiff, .int t_bears, .int o8.2.2])), (a_t_traits, .inl (k 0, 20, .inl t_traits))]) [0] (va_runV (As := []) (rest := [.int x2.1]) ⟨hx, hb, hml, hown, hts⟩ (c_X4_lean l G k tL tM sK sV a_t a_t_traits H.size t_draws t_foot o8.2.1 t_stiff t_bears o8.2.2 o9 hv) (cwV 0 hts gX4_greatestLean_X4_lean rfl rfl rfl (by decide +kernel) ⟨Nat.le_of_ble_eq_true rfl, Nat.le_of_ble_eq_true rfl⟩) (z_preV (wc := [(a_t, .inr (4, [.ref a_t_traits, .int t_draws, .int t_foot, .int o8.2.1, .int t_stiff, .int t_bears, .int o8.2.2]))]) [0] 0 4 hK hE hA hP hD hS (by decide) rfl rfl rfl) rfl rfl hl.1 rfl (lv_room (Nat.le_of_ble_eq_true rfl)) dX4_greatestLean_19 ⟨Nat.le_refl _, Nat.le_refl _⟩) hA hP hD hS rfl rfl rfl rfl (fun H locs hP hD hS => ?_)
    refine va_mmax hx hb (hml.trans hl.1.symm) hown (hts (.methodLink RX4 92 Lib.Math.max.name) (List.mem_of_getElem? (i := 1) rfl)) (hts (.static Lib.Math.max.name) (List.mem_of_getElem? (i := 2) rfl)) (hts (.initialized "java/lang/Math") (List.mem_of_getElem? (i := 3) rfl)) (hts (.code Lib.Math.max.name Lib.Math.max.code 2 (some .int)) (List.mem_of_getElem? (i := 4) rfl)) (Nat.le_of_ble_eq_true rfl) (Nat.le_of_ble_eq_true rfl) (Nat.le_refl _) (Nat.le_refl _) dX4_greatestLean_22 ?_
    refine lv_istore_n (lv' := [(2, .int (if x2.1 < o9 then o9 else x2.1)), (0, .ref a_t), (1, .int u1), (3, .int x2.2.1)]) hx hb dX4_greatestLean_25 rfl hl (by decide) rfl (fun ls hl => ?_)
    refine lv_iinc (v := x2.2.1 + (1 : Int32)) (lv' := [(3, .int (x2.2.1 + (1 : Int32))), (2, .int (if x2.1 < o9 then o9 else x2.1)), (0, .ref a_t), (1, .int u1)]) hx hb dX4_greatestLean_26 hl (k := 3) rfl rfl (by decide) rfl (fun ls hl => ?_)
    refine lv_goto (tgt := 7) hx hb dX4_greatestLean_29 (by decide) ?_
    exact hC3 _ (zs h) H locs ls hP hD hS (lv_sub hl [2, 3, 1, 0] rfl)
theorem iw_X4_movesIn_X4 : ∀ w ∈ wsX40, w ∈ wsX4_movesIn := fun _ h => List.mem_cons_of_mem _ (List.mem_append_right _ h)
set_option maxHeartbeats 4000000 in
set_option maxRecDepth 100000 in
theorem c_X4_movesIn (l : Launch) (G : va_G) (k : Nat → ClassId) (tL tM : Nat) (sK sV : Nat → Nat) (a_t : Nat) (a_t_traits : Nat) (sz : Nat) (t_draws : Int32) (t_foot : Int32) (t_point : Int32) (t_stiff : Int32) (t_bears : Int32) (t_year : Int32) (t_traits : Nat → Int32) (u1 : Int32) (out : Int32 × Int32 × Int32) (h : p_X4_movesIn u1 t_draws t_foot t_point t_stiff t_bears t_year t_traits = some out) : zMi l yX4_movesIn wsX4_movesIn 5 105 G k tL tM sK sV [.ref a_t, .int u1] [(a_t, .inr (4, [.ref a_t_traits, .int t_draws, .int t_foot, .int t_point, .int t_stiff, .int t_bears, .int t_year])), (a_t_traits, .inl (k 0, 20, .inl t_traits))] [(a_t, .inr (4, [.ref a_t_traits, .int t_draws, .int t_foot, .int out.2.1, .int t_stiff, .int t_bears, .int out.2.2])), (a_t_traits, .inl (k 0, 20, .inl t_traits))] out.1 sz := by
  refine z_meti (cc := cX4_movesIn) (maxL := 5) (by decide) rfl (Nat.le_of_ble_eq_true rfl) ?_
  intro p e s m below meth c A Q H locs ls hx hb hml hts hown hA hK hE hret hP hD hS hl
  have hown : s.vm.findClass RX4 = some m.cls := hown
  have hl : lv_has ls 5 [(0, .ref a_t), (1, .int u1)] := hl
  unfold p_X4_movesIn at h
  refine lv_iconst (v := 0) hx hb dX4_movesIn_0 (by decide) ?_
  refine lv_istore_n (lv' := [(2, .int (0 : Int32)), (0, .ref a_t), (1, .int u1)]) hx hb dX4_movesIn_1 rfl hl (by decide) rfl (fun ls hl => ?_)
  refine lv_iconst (v := 0) hx hb dX4_movesIn_2 (by decide) ?_
  refine lv_istore_n (lv' := [(3, .int (0 : Int32)), (2, .int (0 : Int32)), (0, .ref a_t), (1, .int u1)]) hx hb dX4_movesIn_3 rfl hl (by decide) rfl (fun ls hl => ?_)
  obtain ⟨e5, hv, h⟩ := zb h
  have hJ4 : ∀ (e5_ : Int32 × Int32 × Int32), e5_ = e5 → zW p l e (zR 5 105) s m ([.ref a_t, .int u1] : List Value).toArray below meth c Q 5 A G [(a_t, .inr (4, [.ref a_t_traits, .int t_draws, .int t_foot, .int e5_.2.1, .int t_stiff, .int t_bears, .int e5_.2.2])), (a_t_traits, .inl (k 0, 20, .inl t_traits))] [(2, .int e5_.1)] 38 [] := by
    intro e5_ hz
    subst hz
    intro H locs ls hP hD hS hl
    refine lv_iload_n hx hb dX4_movesIn_38 rfl (lv_at hl 0 rfl) ?_
    have hr := (zs h)
    subst hr
    exact hret H locs ls 39 hP hS dX4_movesIn_39
  refine z_lpW (Wh := fun (x1 : Int32 × Int32 × Int32 × Int32) => zW p l e (zR 5 105) s m ([.ref a_t, .int u1] : List Value).toArray below meth c Q 5 A G [(a_t, .inr (4, [.ref a_t_traits, .int t_draws, .int t_foot, .int x1.2.2.1, .int t_stiff, .int t_bears, .int x1.2.2.2])), (a_t_traits, .inl (k 0, 20, .inl t_traits))] [(0, .ref a_t), (1, .int u1), (2, .int x1.1), (3, .int x1.2.1)] 4 []) ?_ 1000 _ hv H locs ls hP hD hS (lv_sub hl [2, 3, 1, 0] rfl)
  clear h
  intro x1 o h hC2 hX3 H locs ls hP hD hS hl
  unfold p_X4_movesIn_b4 at h
  refine lv_iload_n hx hb dX4_movesIn_4 rfl (lv_at hl 3 rfl) ?_
  refine lv_iload_n hx hb dX4_movesIn_5 rfl (lv_at hl 1 rfl) ?_
  refine lv_icmp_ge (tgt := 38) hx hb dX4_movesIn_6 (by decide) (fun c9 => ?_) (fun c9 => ?_)
  · have h := zit c9 h
    exact hJ4 _ (hX3 _ (zs h)) H locs ls hP hD hS (lv_sub hl [2] rfl)
  · have h := zif c9 h
    refine lv_aload_n hx hb dX4_movesIn_9 rfl (lv_at hl 0 rfl) ?_
    refine va_get (D := G) (ci := 4) (v := .int x1.2.2.1) (C := RX4) (T := TX4) (N := 7) hx hb hts iw_X4_movesIn_X4 hown hK hP 0 rfl rfl 3 (by decide) (hts (.fieldLink RX4 25 "SpireLean$Town" "point" "I") (List.mem_of_getElem? (i := 1) rfl)) (fun _ h9 => h9) rfl dX4_movesIn_10 ?_
    refine lv_istore (lv' := [(4, .int x1.2.2.1), (0, .ref a_t), (1, .int u1), (2, .int x1.1), (3, .int x1.2.1)]) hx hb dX4_movesIn_13 hl (by decide) rfl (fun ls hl => ?_)
    refine lv_aload_n hx hb dX4_movesIn_15 rfl (lv_at hl 1 rfl) ?_
    obtain ⟨o7, hv, h⟩ := zb h
    refine z_goi (w2 := [(a_t, .inr (4, [.ref a_t_traits, .int t_draws, .int t_foot, .int o7.2.1, .int t_stiff, .int t_bears, .int o7.2.2])), (a_t_traits, .inl (k 0, 20, .inl t_traits))]) [0, 1] (va_runV (As := []) (rest := []) ⟨hx, hb, hml, hown, hts⟩ (c_X4_passYear l G k tL tM sK sV a_t a_t_traits H.size t_draws t_foot x1.2.2.1 t_stiff t_bears x1.2.2.2 t_traits o7 hv) (cwV 0 hts gX4_movesIn_X4_passYear rfl rfl rfl (by decide +kernel) ⟨Nat.le_of_ble_eq_true rfl, Nat.le_of_ble_eq_true rfl⟩) (z_preV (wc := [(a_t, .inr (4, [.ref a_t_traits, .int t_draws, .int t_foot, .int x1.2.2.1, .int t_stiff, .int t_bears, .int x1.2.2.2])), (a_t_traits, .inl (k 0, 20, .inl t_traits))]) [0, 1] 0 4 hK hE hA hP hD hS (by decide) rfl rfl rfl) rfl rfl hl.1 rfl (lv_room (Nat.le_of_ble_eq_true rfl)) dX4_movesIn_16 ⟨Nat.le_refl _, Nat.le_refl _⟩) hA hP hD hS rfl rfl rfl rfl (fun H locs hP hD hS => ?_)
    refine lv_pop hx hb dX4_movesIn_19 rfl ?_
    refine lv_aload_n hx hb dX4_movesIn_20 rfl (lv_at hl 1 rfl) ?_
    refine va_get (D := G) (ci := 4) (v := .int o7.2.1) (C := RX4) (T := TX4) (N := 7) hx hb hts iw_X4_movesIn_X4 hown hK hP 0 rfl rfl 3 (by decide) (hts (.fieldLink RX4 25 "SpireLean$Town" "point" "I") (List.mem_of_getElem? (i := 1) rfl)) (fun _ h9 => h9) rfl dX4_movesIn_21 ?_
    refine lv_iload hx hb dX4_movesIn_24 (lv_at hl 0 rfl) ?_
    refine lv_icmp_eq (tgt := 32) hx hb dX4_movesIn_26 (by decide) (fun c8 => ?_) (fun c8 => ?_)
    · have h := zit c8 h
      refine lv_iinc (v := x1.2.1 + (1 : Int32)) (lv' := [(3, .int (x1.2.1 + (1 : Int32))), (4, .int x1.2.2.1), (0, .ref a_t), (1, .int u1), (2, .int x1.1)]) hx hb dX4_movesIn_32 hl (k := 4) rfl rfl (by decide) rfl (fun ls hl => ?_)
      refine lv_goto (tgt := 4) hx hb dX4_movesIn_35 (by decide) ?_
      exact hC2 _ (zs h) H locs ls hP hD hS (lv_sub hl [2, 3, 4, 0] rfl)
    · have h := zif c8 h
      refine lv_iinc (v := x1.1 + (1 : Int32)) (lv' := [(2, .int (x1.1 + (1 : Int32))), (4, .int x1.2.2.1), (0, .ref a_t), (1, .int u1), (3, .int x1.2.1)]) hx hb dX4_movesIn_29 hl (k := 3) rfl rfl (by decide) rfl (fun ls hl => ?_)
      refine lv_iinc (v := x1.2.1 + (1 : Int32)) (lv' := [(3, .int (x1.2.1 + (1 : Int32))), (2, .int (x1.1 + (1 : Int32))), (4, .int x1.2.2.1), (0, .ref a_t), (1, .int u1)]) hx hb dX4_movesIn_32 hl (k := 4) rfl rfl (by decide) rfl (fun ls hl => ?_)
      refine lv_goto (tgt := 4) hx hb dX4_movesIn_35 (by decide) ?_
      exact hC2 _ (zs h) H locs ls hP hD hS (lv_sub hl [3, 4, 1, 0] rfl)
set_option maxHeartbeats 4000000 in
set_option maxRecDepth 100000 in
theorem c_X4_holdersIn (l : Launch) (G : va_G) (k : Nat → ClassId) (tL tM : Nat) (sK sV : Nat → Nat) (a_t : Nat) (a_t_traits : Nat) (sz : Nat) (t_draws : Int32) (t_foot : Int32) (t_point : Int32) (t_stiff : Int32) (t_bears : Int32) (t_year : Int32) (t_traits : Nat → Int32) (u1 : Int32) (out : Int32 × Int32 × Int32) (h : p_X4_holdersIn u1 t_draws t_foot t_point t_stiff t_bears t_year t_traits = some out) : zMi l yX4_holdersIn wsX4_holdersIn 5 105 G k tL tM sK sV [.ref a_t, .int u1] [(a_t, .inr (4, [.ref a_t_traits, .int t_draws, .int t_foot, .int t_point, .int t_stiff, .int t_bears, .int t_year])), (a_t_traits, .inl (k 0, 20, .inl t_traits))] [(a_t, .inr (4, [.ref a_t_traits, .int t_draws, .int t_foot, .int out.2.1, .int t_stiff, .int t_bears, .int out.2.2])), (a_t_traits, .inl (k 0, 20, .inl t_traits))] out.1 sz := by
  refine z_meti (cc := cX4_holdersIn) (maxL := 5) (by decide) rfl (Nat.le_of_ble_eq_true rfl) ?_
  intro p e s m below meth c A Q H locs ls hx hb hml hts hown hA hK hE hret hP hD hS hl
  have hown : s.vm.findClass RX4 = some m.cls := hown
  have hl : lv_has ls 5 [(0, .ref a_t), (1, .int u1)] := hl
  unfold p_X4_holdersIn at h
  refine lv_iconst (v := 0) hx hb dX4_holdersIn_0 (by decide) ?_
  refine lv_istore_n (lv' := [(2, .int (0 : Int32)), (0, .ref a_t), (1, .int u1)]) hx hb dX4_holdersIn_1 rfl hl (by decide) rfl (fun ls hl => ?_)
  refine lv_iconst (v := 0) hx hb dX4_holdersIn_2 (by decide) ?_
  refine lv_istore_n (lv' := [(3, .int (0 : Int32)), (2, .int (0 : Int32)), (0, .ref a_t), (1, .int u1)]) hx hb dX4_holdersIn_3 rfl hl (by decide) rfl (fun ls hl => ?_)
  obtain ⟨e5, hv, h⟩ := zb h
  have hJ4 : ∀ (e5_ : Int32 × Int32 × Int32), e5_ = e5 → zW p l e (zR 5 105) s m ([.ref a_t, .int u1] : List Value).toArray below meth c Q 5 A G [(a_t, .inr (4, [.ref a_t_traits, .int t_draws, .int t_foot, .int e5_.2.1, .int t_stiff, .int t_bears, .int e5_.2.2])), (a_t_traits, .inl (k 0, 20, .inl t_traits))] [(2, .int e5_.1)] 35 [] := by
    intro e5_ hz
    subst hz
    intro H locs ls hP hD hS hl
    refine lv_iload_n hx hb dX4_holdersIn_35 rfl (lv_at hl 0 rfl) ?_
    have hr := (zs h)
    subst hr
    exact hret H locs ls 36 hP hS dX4_holdersIn_36
  refine z_lpW (Wh := fun (x1 : Int32 × Int32 × Int32 × Int32) => zW p l e (zR 5 105) s m ([.ref a_t, .int u1] : List Value).toArray below meth c Q 5 A G [(a_t, .inr (4, [.ref a_t_traits, .int t_draws, .int t_foot, .int x1.2.2.1, .int t_stiff, .int t_bears, .int x1.2.2.2])), (a_t_traits, .inl (k 0, 20, .inl t_traits))] [(0, .ref a_t), (1, .int u1), (2, .int x1.1), (3, .int x1.2.1)] 4 []) ?_ 1000 _ hv H locs ls hP hD hS (lv_sub hl [2, 3, 1, 0] rfl)
  clear h
  intro x1 o h hC2 hX3 H locs ls hP hD hS hl
  unfold p_X4_holdersIn_b4 at h
  refine lv_iload_n hx hb dX4_holdersIn_4 rfl (lv_at hl 3 rfl) ?_
  refine lv_iload_n hx hb dX4_holdersIn_5 rfl (lv_at hl 1 rfl) ?_
  refine lv_icmp_ge (tgt := 35) hx hb dX4_holdersIn_6 (by decide) (fun c9 => ?_) (fun c9 => ?_)
  · have h := zit c9 h
    exact hJ4 _ (hX3 _ (zs h)) H locs ls hP hD hS (lv_sub hl [2] rfl)
  · have h := zif c9 h
    refine lv_aload_n hx hb dX4_holdersIn_9 rfl (lv_at hl 0 rfl) ?_
    obtain ⟨o7, hv, h⟩ := zb h
    refine z_goi (w2 := [(a_t, .inr (4, [.ref a_t_traits, .int t_draws, .int t_foot, .int o7.2.1, .int t_stiff, .int t_bears, .int o7.2.2])), (a_t_traits, .inl (k 0, 20, .inl t_traits))]) [0, 1] (va_runV (As := []) (rest := []) ⟨hx, hb, hml, hown, hts⟩ (c_X4_passYear l G k tL tM sK sV a_t a_t_traits H.size t_draws t_foot x1.2.2.1 t_stiff t_bears x1.2.2.2 t_traits o7 hv) (cwV 0 hts gX4_holdersIn_X4_passYear rfl rfl rfl (by decide +kernel) ⟨Nat.le_of_ble_eq_true rfl, Nat.le_of_ble_eq_true rfl⟩) (z_preV (wc := [(a_t, .inr (4, [.ref a_t_traits, .int t_draws, .int t_foot, .int x1.2.2.1, .int t_stiff, .int t_bears, .int x1.2.2.2])), (a_t_traits, .inl (k 0, 20, .inl t_traits))]) [0, 1] 0 4 hK hE hA hP hD hS (by decide) rfl rfl rfl) rfl rfl hl.1 rfl (lv_room (Nat.le_of_ble_eq_true rfl)) dX4_holdersIn_10 ⟨Nat.le_refl _, Nat.le_refl _⟩) hA hP hD hS rfl rfl rfl rfl (fun H locs hP hD hS => ?_)
    refine lv_istore (lv' := [(4, .int o7.1), (0, .ref a_t), (1, .int u1), (2, .int x1.1), (3, .int x1.2.1)]) hx hb dX4_holdersIn_13 hl (by decide) rfl (fun ls hl => ?_)
    refine lv_iload hx hb dX4_holdersIn_15 (lv_at hl 0 rfl) ?_
    refine lv_bipush (v := (-4)) hx hb dX4_holdersIn_17 (by decide) ?_
    refine lv_icmp_eq (tgt := 29) hx hb dX4_holdersIn_19 (by decide) (fun c8 => ?_) (fun c8 => ?_)
    · have h := zit c8 h
      refine lv_iinc (v := x1.2.1 + (1 : Int32)) (lv' := [(3, .int (x1.2.1 + (1 : Int32))), (4, .int o7.1), (0, .ref a_t), (1, .int u1), (2, .int x1.1)]) hx hb dX4_holdersIn_29 hl (k := 4) rfl rfl (by decide) rfl (fun ls hl => ?_)
      refine lv_goto (tgt := 4) hx hb dX4_holdersIn_32 (by decide) ?_
      exact hC2 _ (zs h) H locs ls hP hD hS (lv_sub hl [2, 3, 4, 0] rfl)
    · have h := zif c8 h
      refine lv_iload_n hx hb dX4_holdersIn_22 rfl (lv_at hl 3 rfl) ?_
      refine lv_iconst (v := 1) hx hb dX4_holdersIn_23 (by decide) ?_
      refine lv_iload hx hb dX4_holdersIn_24 (lv_at hl 0 rfl) ?_
      refine lv_ishl hx hb dX4_holdersIn_26 ?_
      refine lv_ior hx hb dX4_holdersIn_27 ?_
      refine lv_istore_n (lv' := [(2, .int (x1.1 ||| ((1 : Int32) <<< (o7.1 &&& 31)))), (4, .int o7.1), (0, .ref a_t), (1, .int u1), (3, .int x1.2.1)]) hx hb dX4_holdersIn_28 rfl hl (by decide) rfl (fun ls hl => ?_)
      refine lv_iinc (v := x1.2.1 + (1 : Int32)) (lv' := [(3, .int (x1.2.1 + (1 : Int32))), (2, .int (x1.1 ||| ((1 : Int32) <<< (o7.1 &&& 31)))), (4, .int o7.1), (0, .ref a_t), (1, .int u1)]) hx hb dX4_holdersIn_29 hl (k := 4) rfl rfl (by decide) rfl (fun ls hl => ?_)
      refine lv_goto (tgt := 4) hx hb dX4_holdersIn_32 (by decide) ?_
      exact hC2 _ (zs h) H locs ls hP hD hS (lv_sub hl [3, 4, 1, 0] rfl)
set_option maxHeartbeats 4000000 in
set_option maxRecDepth 100000 in
theorem c_X4_yearsHeldBy (l : Launch) (G : va_G) (k : Nat → ClassId) (tL tM : Nat) (sK sV : Nat → Nat) (a_t : Nat) (a_t_traits : Nat) (sz : Nat) (t_draws : Int32) (t_foot : Int32) (t_point : Int32) (t_stiff : Int32) (t_bears : Int32) (t_year : Int32) (t_traits : Nat → Int32) (u1 : Int32) (u2 : Int32) (out : Int32 × Int32 × Int32) (h : p_X4_yearsHeldBy u1 u2 t_draws t_foot t_point t_stiff t_bears t_year t_traits = some out) : zMi l yX4_yearsHeldBy wsX4_yearsHeldBy 5 105 G k tL tM sK sV [.ref a_t, .int u1, .int u2] [(a_t, .inr (4, [.ref a_t_traits, .int t_draws, .int t_foot, .int t_point, .int t_stiff, .int t_bears, .int t_year])), (a_t_traits, .inl (k 0, 20, .inl t_traits))] [(a_t, .inr (4, [.ref a_t_traits, .int t_draws, .int t_foot, .int out.2.1, .int t_stiff, .int t_bears, .int out.2.2])), (a_t_traits, .inl (k 0, 20, .inl t_traits))] out.1 sz := by
  refine z_meti (cc := cX4_yearsHeldBy) (maxL := 5) (by decide) rfl (Nat.le_of_ble_eq_true rfl) ?_
  intro p e s m below meth c A Q H locs ls hx hb hml hts hown hA hK hE hret hP hD hS hl
  have hown : s.vm.findClass RX4 = some m.cls := hown
  have hl : lv_has ls 5 [(0, .ref a_t), (1, .int u1), (2, .int u2)] := hl
  unfold p_X4_yearsHeldBy at h
  refine lv_iconst (v := 0) hx hb dX4_yearsHeldBy_0 (by decide) ?_
  refine lv_istore_n (lv' := [(3, .int (0 : Int32)), (0, .ref a_t), (1, .int u1), (2, .int u2)]) hx hb dX4_yearsHeldBy_1 rfl hl (by decide) rfl (fun ls hl => ?_)
  refine lv_iconst (v := 0) hx hb dX4_yearsHeldBy_2 (by decide) ?_
  refine lv_istore (lv' := [(4, .int (0 : Int32)), (3, .int (0 : Int32)), (0, .ref a_t), (1, .int u1), (2, .int u2)]) hx hb dX4_yearsHeldBy_3 hl (by decide) rfl (fun ls hl => ?_)
  obtain ⟨e5, hv, h⟩ := zb h
  have hJ4 : ∀ (e5_ : Int32 × Int32 × Int32), e5_ = e5 → zW p l e (zR 5 105) s m ([.ref a_t, .int u1, .int u2] : List Value).toArray below meth c Q 5 A G [(a_t, .inr (4, [.ref a_t_traits, .int t_draws, .int t_foot, .int e5_.2.1, .int t_stiff, .int t_bears, .int e5_.2.2])), (a_t_traits, .inl (k 0, 20, .inl t_traits))] [(3, .int e5_.1)] 28 [] := by
    intro e5_ hz
    subst hz
    intro H locs ls hP hD hS hl
    refine lv_iload_n hx hb dX4_yearsHeldBy_28 rfl (lv_at hl 0 rfl) ?_
    have hr := (zs h)
    subst hr
    exact hret H locs ls 29 hP hS dX4_yearsHeldBy_29
  refine z_lpW (Wh := fun (x1 : Int32 × Int32 × Int32 × Int32) => zW p l e (zR 5 105) s m ([.ref a_t, .int u1, .int u2] : List Value).toArray below meth c Q 5 A G [(a_t, .inr (4, [.ref a_t_traits, .int t_draws, .int t_foot, .int x1.2.2.1, .int t_stiff, .int t_bears, .int x1.2.2.2])), (a_t_traits, .inl (k 0, 20, .inl t_traits))] [(0, .ref a_t), (1, .int u1), (2, .int u2), (3, .int x1.1), (4, .int x1.2.1)] 5 []) ?_ 1000 _ hv H locs ls hP hD hS (lv_sub hl [2, 3, 4, 1, 0] rfl)
  clear h
  intro x1 o h hC2 hX3 H locs ls hP hD hS hl
  unfold p_X4_yearsHeldBy_b5 at h
  refine lv_iload hx hb dX4_yearsHeldBy_5 (lv_at hl 4 rfl) ?_
  refine lv_iload_n hx hb dX4_yearsHeldBy_7 rfl (lv_at hl 2 rfl) ?_
  refine lv_icmp_ge (tgt := 28) hx hb dX4_yearsHeldBy_8 (by decide) (fun c9 => ?_) (fun c9 => ?_)
  · have h := zit c9 h
    exact hJ4 _ (hX3 _ (zs h)) H locs ls hP hD hS (lv_sub hl [3] rfl)
  · have h := zif c9 h
    refine lv_aload_n hx hb dX4_yearsHeldBy_11 rfl (lv_at hl 0 rfl) ?_
    obtain ⟨o7, hv, h⟩ := zb h
    refine z_goi (w2 := [(a_t, .inr (4, [.ref a_t_traits, .int t_draws, .int t_foot, .int o7.2.1, .int t_stiff, .int t_bears, .int o7.2.2])), (a_t_traits, .inl (k 0, 20, .inl t_traits))]) [0, 1] (va_runV (As := []) (rest := []) ⟨hx, hb, hml, hown, hts⟩ (c_X4_passYear l G k tL tM sK sV a_t a_t_traits H.size t_draws t_foot x1.2.2.1 t_stiff t_bears x1.2.2.2 t_traits o7 hv) (cwV 0 hts gX4_yearsHeldBy_X4_passYear rfl rfl rfl (by decide +kernel) ⟨Nat.le_of_ble_eq_true rfl, Nat.le_of_ble_eq_true rfl⟩) (z_preV (wc := [(a_t, .inr (4, [.ref a_t_traits, .int t_draws, .int t_foot, .int x1.2.2.1, .int t_stiff, .int t_bears, .int x1.2.2.2])), (a_t_traits, .inl (k 0, 20, .inl t_traits))]) [0, 1] 0 4 hK hE hA hP hD hS (by decide) rfl rfl rfl) rfl rfl hl.1 rfl (lv_room (Nat.le_of_ble_eq_true rfl)) dX4_yearsHeldBy_12 ⟨Nat.le_refl _, Nat.le_refl _⟩) hA hP hD hS rfl rfl rfl rfl (fun H locs hP hD hS => ?_)
    refine lv_iload_n hx hb dX4_yearsHeldBy_15 rfl (lv_at hl 1 rfl) ?_
    refine lv_icmp_ne (tgt := 22) hx hb dX4_yearsHeldBy_16 (by decide) (fun c8 => ?_) (fun c8 => ?_)
    · have h := zif c8 h
      refine lv_iinc (v := x1.2.1 + (1 : Int32)) (lv' := [(4, .int (x1.2.1 + (1 : Int32))), (0, .ref a_t), (1, .int u1), (2, .int u2), (3, .int x1.1)]) hx hb dX4_yearsHeldBy_22 hl (k := 4) rfl rfl (by decide) rfl (fun ls hl => ?_)
      refine lv_goto (tgt := 5) hx hb dX4_yearsHeldBy_25 (by decide) ?_
      exact hC2 _ (zs h) H locs ls hP hD hS (lv_sub hl [1, 2, 3, 4, 0] rfl)
    · have h := zit c8 h
      refine lv_iinc (v := x1.1 + (1 : Int32)) (lv' := [(3, .int (x1.1 + (1 : Int32))), (0, .ref a_t), (1, .int u1), (2, .int u2), (4, .int x1.2.1)]) hx hb dX4_yearsHeldBy_19 hl (k := 3) rfl rfl (by decide) rfl (fun ls hl => ?_)
      refine lv_iinc (v := x1.2.1 + (1 : Int32)) (lv' := [(4, .int (x1.2.1 + (1 : Int32))), (3, .int (x1.1 + (1 : Int32))), (0, .ref a_t), (1, .int u1), (2, .int u2)]) hx hb dX4_yearsHeldBy_22 hl (k := 4) rfl rfl (by decide) rfl (fun ls hl => ?_)
      refine lv_goto (tgt := 5) hx hb dX4_yearsHeldBy_25 (by decide) ?_
      exact hC2 _ (zs h) H locs ls hP hD hS (lv_sub hl [2, 3, 4, 1, 0] rfl)
theorem iw_X4_yearsTo_X4 : ∀ w ∈ wsX40, w ∈ wsX4_yearsTo := fun _ h => List.mem_cons_of_mem _ (List.mem_append_right _ h)
set_option maxHeartbeats 4000000 in
set_option maxRecDepth 100000 in
theorem c_X4_yearsTo (l : Launch) (G : va_G) (k : Nat → ClassId) (tL tM : Nat) (sK sV : Nat → Nat) (a_t : Nat) (a_t_traits : Nat) (sz : Nat) (t_draws : Int32) (t_foot : Int32) (t_point : Int32) (t_stiff : Int32) (t_bears : Int32) (t_year : Int32) (t_traits : Nat → Int32) (u1 : Int32) (u2 : Int32) (out : Int32 × Int32 × Int32) (h : p_X4_yearsTo u1 u2 t_draws t_foot t_point t_stiff t_bears t_year t_traits = some out) : zMi l yX4_yearsTo wsX4_yearsTo 5 105 G k tL tM sK sV [.ref a_t, .int u1, .int u2] [(a_t, .inr (4, [.ref a_t_traits, .int t_draws, .int t_foot, .int t_point, .int t_stiff, .int t_bears, .int t_year])), (a_t_traits, .inl (k 0, 20, .inl t_traits))] [(a_t, .inr (4, [.ref a_t_traits, .int t_draws, .int t_foot, .int out.2.1, .int t_stiff, .int t_bears, .int out.2.2])), (a_t_traits, .inl (k 0, 20, .inl t_traits))] out.1 sz := by
  refine z_meti (cc := cX4_yearsTo) (maxL := 4) (by decide) rfl (Nat.le_of_ble_eq_true rfl) ?_
  intro p e s m below meth c A Q H locs ls hx hb hml hts hown hA hK hE hret hP hD hS hl
  have hown : s.vm.findClass RX4 = some m.cls := hown
  have hl : lv_has ls 4 [(0, .ref a_t), (1, .int u1), (2, .int u2)] := hl
  unfold p_X4_yearsTo at h
  refine lv_iconst (v := 0) hx hb dX4_yearsTo_0 (by decide) ?_
  refine lv_istore_n (lv' := [(3, .int (0 : Int32)), (0, .ref a_t), (1, .int u1), (2, .int u2)]) hx hb dX4_yearsTo_1 rfl hl (by decide) rfl (fun ls hl => ?_)
  obtain ⟨e6, hv, h⟩ := zb h
  have hJ4 : ∀ (x : Int32 × Int32 × Int32), .inl x = e6 → x = out := fun x hz => (zs (zpeel_0_2 hz h))
  have hJ5 : ∀ (v7 : Int32 × Int32), .inr v7 = e6 → zW p l e (zR 5 105) s m ([.ref a_t, .int u1, .int u2] : List Value).toArray below meth c Q 4 A G [(a_t, .inr (4, [.ref a_t_traits, .int t_draws, .int t_foot, .int v7.1, .int t_stiff, .int t_bears, .int v7.2])), (a_t_traits, .inl (k 0, 20, .inl t_traits))] [] 28 [] := by
    intro v7 hz
    have h := (zpeel_1_2 hz h)
    intro H locs ls hP hD hS hl
    refine lv_bipush (v := (-4)) hx hb dX4_yearsTo_28 (by decide) ?_
    have hr := (zs h)
    subst hr
    exact hret H locs ls 30 hP hS dX4_yearsTo_30
  refine z_lpW (Wh := fun (x1 : Int32 × Int32 × Int32) => zW p l e (zR 5 105) s m ([.ref a_t, .int u1, .int u2] : List Value).toArray below meth c Q 4 A G [(a_t, .inr (4, [.ref a_t_traits, .int t_draws, .int t_foot, .int x1.2.1, .int t_stiff, .int t_bears, .int x1.2.2])), (a_t_traits, .inl (k 0, 20, .inl t_traits))] [(0, .ref a_t), (1, .int u1), (2, .int u2), (3, .int x1.1)] 2 []) ?_ 1000 _ hv H locs ls hP hD hS (lv_sub hl [1, 2, 3, 0] rfl)
  clear h
  intro x1 o h hC2 hX3 H locs ls hP hD hS hl
  unfold p_X4_yearsTo_b2 at h
  refine lv_iload_n hx hb dX4_yearsTo_2 rfl (lv_at hl 3 rfl) ?_
  refine lv_iload_n hx hb dX4_yearsTo_3 rfl (lv_at hl 2 rfl) ?_
  refine lv_icmp_gt (tgt := 28) hx hb dX4_yearsTo_4 (by decide) (fun c10 => ?_) (fun c10 => ?_)
  · have h := zit c10 h
    exact hJ5 _ (hX3 _ (zs h)) H locs ls hP hD hS (lv_sub hl [] rfl)
  · have h := zif c10 h
    refine lv_aload_n hx hb dX4_yearsTo_7 rfl (lv_at hl 0 rfl) ?_
    refine va_get (D := G) (ci := 4) (v := .int x1.2.1) (C := RX4) (T := TX4) (N := 7) hx hb hts iw_X4_yearsTo_X4 hown hK hP 0 rfl rfl 3 (by decide) (hts (.fieldLink RX4 25 "SpireLean$Town" "point" "I") (List.mem_of_getElem? (i := 1) rfl)) (fun _ h9 => h9) rfl dX4_yearsTo_8 ?_
    refine lv_iload_n hx hb dX4_yearsTo_11 rfl (lv_at hl 1 rfl) ?_
    refine lv_icmp_ne (tgt := 17) hx hb dX4_yearsTo_12 (by decide) (fun c9 => ?_) (fun c9 => ?_)
    · have h := zif c9 h
      refine lv_aload_n hx hb dX4_yearsTo_17 rfl (lv_at hl 0 rfl) ?_
      obtain ⟨o8, hv, h⟩ := zb h
      refine z_goi (w2 := [(a_t, .inr (4, [.ref a_t_traits, .int t_draws, .int t_foot, .int o8.2.1, .int t_stiff, .int t_bears, .int o8.2.2])), (a_t_traits, .inl (k 0, 20, .inl t_traits))]) [0, 1] (va_runV (As := []) (rest := []) ⟨hx, hb, hml, hown, hts⟩ (c_X4_passYear l G k tL tM sK sV a_t a_t_traits H.size t_draws t_foot x1.2.1 t_stiff t_bears x1.2.2 t_traits o8 hv) (cwV 0 hts gX4_yearsTo_X4_passYear rfl rfl rfl (by decide +kernel) ⟨Nat.le_of_ble_eq_true rfl, Nat.le_of_ble_eq_true rfl⟩) (z_preV (wc := [(a_t, .inr (4, [.ref a_t_traits, .int t_draws, .int t_foot, .int x1.2.1, .int t_stiff, .int t_bears, .int x1.2.2])), (a_t_traits, .inl (k 0, 20, .inl t_traits))]) [0, 1] 0 4 hK hE hA hP hD hS (by decide) rfl rfl rfl) rfl rfl hl.1 rfl (lv_room (Nat.le_of_ble_eq_true rfl)) dX4_yearsTo_18 ⟨Nat.le_refl _, Nat.le_refl _⟩) hA hP hD hS rfl rfl rfl rfl (fun H locs hP hD hS => ?_)
      refine lv_pop hx hb dX4_yearsTo_21 rfl ?_
      refine lv_iinc (v := x1.1 + (1 : Int32)) (lv' := [(3, .int (x1.1 + (1 : Int32))), (0, .ref a_t), (1, .int u1), (2, .int u2)]) hx hb dX4_yearsTo_22 hl (k := 3) rfl rfl (by decide) rfl (fun ls hl => ?_)
      refine lv_goto (tgt := 2) hx hb dX4_yearsTo_25 (by decide) ?_
      exact hC2 _ (zs h) H locs ls hP hD hS (lv_sub hl [1, 2, 3, 0] rfl)
    · have h := zit c9 h
      refine lv_iload_n hx hb dX4_yearsTo_15 rfl (lv_at hl 3 rfl) ?_
      have hr := (hJ4 _ (hX3 _ (zs h)))
      subst hr
      exact hret H locs ls 16 hP hS dX4_yearsTo_16
set_option maxHeartbeats 4000000 in
set_option maxRecDepth 100000 in
theorem c_X4_yearsToFall (l : Launch) (G : va_G) (k : Nat → ClassId) (tL tM : Nat) (sK sV : Nat → Nat) (a_t : Nat) (a_t_traits : Nat) (sz : Nat) (t_draws : Int32) (t_foot : Int32) (t_point : Int32) (t_stiff : Int32) (t_bears : Int32) (t_year : Int32) (t_traits : Nat → Int32) (u1 : Int32) (out : Int32 × Int32 × Int32) (h : p_X4_yearsToFall u1 t_draws t_foot t_point t_stiff t_bears t_year t_traits = some out) : zMi l yX4_yearsToFall wsX4_yearsToFall 5 105 G k tL tM sK sV [.ref a_t, .int u1] [(a_t, .inr (4, [.ref a_t_traits, .int t_draws, .int t_foot, .int t_point, .int t_stiff, .int t_bears, .int t_year])), (a_t_traits, .inl (k 0, 20, .inl t_traits))] [(a_t, .inr (4, [.ref a_t_traits, .int t_draws, .int t_foot, .int out.2.1, .int t_stiff, .int t_bears, .int out.2.2])), (a_t_traits, .inl (k 0, 20, .inl t_traits))] out.1 sz := by
  refine z_meti (cc := cX4_yearsToFall) (maxL := 3) (by decide) rfl (Nat.le_of_ble_eq_true rfl) ?_
  intro p e s m below meth c A Q H locs ls hx hb hml hts hown hA hK hE hret hP hD hS hl
  have hown : s.vm.findClass RX4 = some m.cls := hown
  have hl : lv_has ls 3 [(0, .ref a_t), (1, .int u1)] := hl
  unfold p_X4_yearsToFall at h
  refine lv_iconst (v := 0) hx hb dX4_yearsToFall_0 (by decide) ?_
  refine lv_istore_n (lv' := [(2, .int (0 : Int32)), (0, .ref a_t), (1, .int u1)]) hx hb dX4_yearsToFall_1 rfl hl (by decide) rfl (fun ls hl => ?_)
  obtain ⟨e6, hv, h⟩ := zb h
  have hJ4 : ∀ (x : Int32 × Int32 × Int32), .inl x = e6 → x = out := fun x hz => (zs (zpeel_0_2 hz h))
  have hJ5 : ∀ (v7 : Int32 × Int32), .inr v7 = e6 → zW p l e (zR 5 105) s m ([.ref a_t, .int u1] : List Value).toArray below meth c Q 3 A G [(a_t, .inr (4, [.ref a_t_traits, .int t_draws, .int t_foot, .int v7.1, .int t_stiff, .int t_bears, .int v7.2])), (a_t_traits, .inl (k 0, 20, .inl t_traits))] [] 27 [] := by
    intro v7 hz
    have h := (zpeel_1_2 hz h)
    intro H locs ls hP hD hS hl
    refine lv_bipush (v := (-4)) hx hb dX4_yearsToFall_27 (by decide) ?_
    have hr := (zs h)
    subst hr
    exact hret H locs ls 29 hP hS dX4_yearsToFall_29
  refine z_lpW (Wh := fun (x1 : Int32 × Int32 × Int32) => zW p l e (zR 5 105) s m ([.ref a_t, .int u1] : List Value).toArray below meth c Q 3 A G [(a_t, .inr (4, [.ref a_t_traits, .int t_draws, .int t_foot, .int x1.2.1, .int t_stiff, .int t_bears, .int x1.2.2])), (a_t_traits, .inl (k 0, 20, .inl t_traits))] [(0, .ref a_t), (1, .int u1), (2, .int x1.1)] 2 []) ?_ 1000 _ hv H locs ls hP hD hS (lv_sub hl [1, 2, 0] rfl)
  clear h
  intro x1 o h hC2 hX3 H locs ls hP hD hS hl
  unfold p_X4_yearsToFall_b2 at h
  refine lv_iload_n hx hb dX4_yearsToFall_2 rfl (lv_at hl 2 rfl) ?_
  refine lv_iload_n hx hb dX4_yearsToFall_3 rfl (lv_at hl 1 rfl) ?_
  refine lv_icmp_gt (tgt := 27) hx hb dX4_yearsToFall_4 (by decide) (fun c11 => ?_) (fun c11 => ?_)
  · have h := zit c11 h
    exact hJ5 _ (hX3 _ (zs h)) H locs ls hP hD hS (lv_sub hl [] rfl)
  · have h := zif c11 h
    refine lv_aload_n hx hb dX4_yearsToFall_7 rfl (lv_at hl 0 rfl) ?_
    obtain ⟨o8, hv, h⟩ := zb h
    refine z_goi (w2 := [(a_t, .inr (4, [.ref a_t_traits, .int t_draws, .int t_foot, .int x1.2.1, .int t_stiff, .int t_bears, .int x1.2.2])), (a_t_traits, .inl (k 0, 20, .inl t_traits))]) [0] (va_runV (As := []) (rest := []) ⟨hx, hb, hml, hown, hts⟩ (c_X4_isFallen l G k tL tM sK sV a_t a_t_traits H.size t_draws t_foot x1.2.1 t_stiff t_bears x1.2.2 o8 hv) (cwV 0 hts gX4_yearsToFall_X4_isFallen rfl rfl rfl (by decide +kernel) ⟨Nat.le_of_ble_eq_true rfl, Nat.le_of_ble_eq_true rfl⟩) (z_preV (wc := [(a_t, .inr (4, [.ref a_t_traits, .int t_draws, .int t_foot, .int x1.2.1, .int t_stiff, .int t_bears, .int x1.2.2]))]) [0] 0 4 hK hE hA hP hD hS (by decide) rfl rfl rfl) rfl rfl hl.1 rfl (lv_room (Nat.le_of_ble_eq_true rfl)) dX4_yearsToFall_8 ⟨Nat.le_refl _, Nat.le_refl _⟩) hA hP hD hS rfl rfl rfl rfl (fun H locs hP hD hS => ?_)
    refine lv_if_eq (tgt := 16) hx hb dX4_yearsToFall_11 (by decide) (fun c10 => ?_) (fun c10 => ?_)
    · have h := zit c10 h
      refine lv_aload_n hx hb dX4_yearsToFall_16 rfl (lv_at hl 0 rfl) ?_
      obtain ⟨o9, hv, h⟩ := zb h
      refine z_goi (w2 := [(a_t, .inr (4, [.ref a_t_traits, .int t_draws, .int t_foot, .int o9.2.1, .int t_stiff, .int t_bears, .int o9.2.2])), (a_t_traits, .inl (k 0, 20, .inl t_traits))]) [0, 1] (va_runV (As := []) (rest := []) ⟨hx, hb, hml, hown, hts⟩ (c_X4_passYear l G k tL tM sK sV a_t a_t_traits H.size t_draws t_foot x1.2.1 t_stiff t_bears x1.2.2 t_traits o9 hv) (cwV 0 hts gX4_yearsToFall_X4_passYear rfl rfl rfl (by decide +kernel) ⟨Nat.le_of_ble_eq_true rfl, Nat.le_of_ble_eq_true rfl⟩) (z_preV (wc := [(a_t, .inr (4, [.ref a_t_traits, .int t_draws, .int t_foot, .int x1.2.1, .int t_stiff, .int t_bears, .int x1.2.2])), (a_t_traits, .inl (k 0, 20, .inl t_traits))]) [0, 1] 0 4 hK hE hA hP hD hS (by decide) rfl rfl rfl) rfl rfl hl.1 rfl (lv_room (Nat.le_of_ble_eq_true rfl)) dX4_yearsToFall_17 ⟨Nat.le_refl _, Nat.le_refl _⟩) hA hP hD hS rfl rfl rfl rfl (fun H locs hP hD hS => ?_)
      refine lv_pop hx hb dX4_yearsToFall_20 rfl ?_
      refine lv_iinc (v := x1.1 + (1 : Int32)) (lv' := [(2, .int (x1.1 + (1 : Int32))), (0, .ref a_t), (1, .int u1)]) hx hb dX4_yearsToFall_21 hl (k := 2) rfl rfl (by decide) rfl (fun ls hl => ?_)
      refine lv_goto (tgt := 2) hx hb dX4_yearsToFall_24 (by decide) ?_
      exact hC2 _ (zs h) H locs ls hP hD hS (lv_sub hl [1, 2, 0] rfl)
    · have h := zif c10 h
      refine lv_iload_n hx hb dX4_yearsToFall_14 rfl (lv_at hl 2 rfl) ?_
      have hr := (hJ4 _ (hX3 _ (zs h)))
      subst hr
      exact hret H locs ls 15 hP hS dX4_yearsToFall_15
theorem iw_X4_pullOfAll_X4 : ∀ w ∈ wsX40, w ∈ wsX4_pullOfAll := fun _ h => List.mem_cons_of_mem _ (List.mem_append_right _ h)
set_option maxHeartbeats 4000000 in
set_option maxRecDepth 100000 in
theorem c_X4_pullOfAll (l : Launch) (G : va_G) (k : Nat → ClassId) (tL tM : Nat) (sK sV : Nat → Nat) (a_t : Nat) (a_t_traits : Nat) (sz : Nat) (t_draws : Int32) (t_foot : Int32) (t_point : Int32) (t_stiff : Int32) (t_bears : Int32) (t_year : Int32) (t_traits : Nat → Int32) (out : Int32) (h : p_X4_pullOfAll t_draws t_traits = some out) : zMi l yX4_pullOfAll wsX4_pullOfAll 1 22 G k tL tM sK sV [.ref a_t] [(a_t, .inr (4, [.ref a_t_traits, .int t_draws, .int t_foot, .int t_point, .int t_stiff, .int t_bears, .int t_year])), (a_t_traits, .inl (k 0, 20, .inl t_traits))] [(a_t, .inr (4, [.ref a_t_traits, .int t_draws, .int t_foot, .int t_point, .int t_stiff, .int t_bears, .int t_year])), (a_t_traits, .inl (k 0, 20, .inl t_traits))] out sz := by
  refine z_meti (cc := cX4_pullOfAll) (maxL := 3) (by decide) rfl (Nat.le_of_ble_eq_true rfl) ?_
  intro p e s m below meth c A Q H locs ls hx hb hml hts hown hA hK hE hret hP hD hS hl
  have hown : s.vm.findClass RX4 = some m.cls := hown
  have hl : lv_has ls 3 [(0, .ref a_t)] := hl
  unfold p_X4_pullOfAll at h
  refine lv_iconst (v := 0) hx hb dX4_pullOfAll_0 (by decide) ?_
  refine lv_istore_n (lv' := [(1, .int (0 : Int32)), (0, .ref a_t)]) hx hb dX4_pullOfAll_1 rfl hl (by decide) rfl (fun ls hl => ?_)
  refine lv_iconst (v := 0) hx hb dX4_pullOfAll_2 (by decide) ?_
  refine lv_istore_n (lv' := [(2, .int (0 : Int32)), (1, .int (0 : Int32)), (0, .ref a_t)]) hx hb dX4_pullOfAll_3 rfl hl (by decide) rfl (fun ls hl => ?_)
  obtain ⟨e5, hv, h⟩ := zb h
  have hJ4 : ∀ (e5_ : Int32), e5_ = e5 → zW p l e (zR 1 22) s m ([.ref a_t] : List Value).toArray below meth c Q 3 A G [(a_t, .inr (4, [.ref a_t_traits, .int t_draws, .int t_foot, .int t_point, .int t_stiff, .int t_bears, .int t_year])), (a_t_traits, .inl (k 0, 20, .inl t_traits))] [(1, .int e5_)] 27 [] := by
    intro e5_ hz
    subst hz
    intro H locs ls hP hD hS hl
    refine lv_iload_n hx hb dX4_pullOfAll_27 rfl (lv_at hl 0 rfl) ?_
    have hr := (zs h)
    subst hr
    exact hret H locs ls 28 hP hS dX4_pullOfAll_28
  refine z_lpW (Wh := fun (x1 : Int32 × Int32) => zW p l e (zR 1 22) s m ([.ref a_t] : List Value).toArray below meth c Q 3 A G [(a_t, .inr (4, [.ref a_t_traits, .int t_draws, .int t_foot, .int t_point, .int t_stiff, .int t_bears, .int t_year])), (a_t_traits, .inl (k 0, 20, .inl t_traits))] [(0, .ref a_t), (1, .int x1.1), (2, .int x1.2)] 4 []) ?_ 1000 _ hv H locs ls hP hD hS (lv_sub hl [2, 1, 0] rfl)
  clear h
  intro x1 o h hC2 hX3 H locs ls hP hD hS hl
  unfold p_X4_pullOfAll_b4 at h
  refine lv_iload_n hx hb dX4_pullOfAll_4 rfl (lv_at hl 2 rfl) ?_
  refine lv_aload_n hx hb dX4_pullOfAll_5 rfl (lv_at hl 0 rfl) ?_
  refine va_get (D := G) (ci := 4) (v := .int t_draws) (C := RX4) (T := TX4) (N := 7) hx hb hts iw_X4_pullOfAll_X4 hown hK hP 0 rfl rfl 1 (by decide) (hts (.fieldLink RX4 18 "SpireLean$Town" "draws" "I") (List.mem_of_getElem? (i := 1) rfl)) (fun _ h9 => h9) rfl dX4_pullOfAll_6 ?_
  refine lv_icmp_ge (tgt := 27) hx hb dX4_pullOfAll_9 (by decide) (fun c8 => ?_) (fun c8 => ?_)
  · have h := zit c8 h
    exact hJ4 _ (hX3 _ (zs h)) H locs ls hP hD hS (lv_sub hl [1] rfl)
  · have h := zif c8 h
    refine lv_iload_n hx hb dX4_pullOfAll_12 rfl (lv_at hl 1 rfl) ?_
    refine lv_aload_n hx hb dX4_pullOfAll_13 rfl (lv_at hl 0 rfl) ?_
    refine lv_iload_n hx hb dX4_pullOfAll_14 rfl (lv_at hl 2 rfl) ?_
    refine lv_iconst (v := 1) hx hb dX4_pullOfAll_15 (by decide) ?_
    obtain ⟨o7, hv, h⟩ := zb h
    refine z_goi (w2 := [(a_t, .inr (4, [.ref a_t_traits, .int t_draws, .int t_foot, .int t_point, .int t_stiff, .int t_bears, .int t_year])), (a_t_traits, .inl (k 0, 20, .inl t_traits))]) [0, 1] (va_runV (As := [.int x1.2, .int (1 : Int32)]) (rest := [.int x1.1]) ⟨hx, hb, hml, hown, hts⟩ (c_X4_trait l G k tL tM sK sV a_t a_t_traits H.size t_draws t_foot t_point t_stiff t_bears t_year t_traits x1.2 (1 : Int32) o7 hv) (cwV 2 hts gX4_pullOfAll_X4_trait rfl rfl rfl (by decide +kernel) ⟨Nat.le_of_ble_eq_true rfl, Nat.le_of_ble_eq_true rfl⟩) (z_preV (wc := [(a_t, .inr (4, [.ref a_t_traits, .int t_draws, .int t_foot, .int t_point, .int t_stiff, .int t_bears, .int t_year])), (a_t_traits, .inl (k 0, 20, .inl t_traits))]) [0, 1] 0 4 hK hE hA hP hD hS (by decide) rfl rfl rfl) rfl rfl hl.1 rfl (lv_room (Nat.le_of_ble_eq_true rfl)) dX4_pullOfAll_16 ⟨Nat.le_refl _, Nat.le_refl _⟩) hA hP hD hS rfl rfl rfl rfl (fun H locs hP hD hS => ?_)
    refine lv_iadd hx hb dX4_pullOfAll_19 ?_
    refine lv_istore_n (lv' := [(1, .int (x1.1 + o7)), (0, .ref a_t), (2, .int x1.2)]) hx hb dX4_pullOfAll_20 rfl hl (by decide) rfl (fun ls hl => ?_)
    refine lv_iinc (v := x1.2 + (1 : Int32)) (lv' := [(2, .int (x1.2 + (1 : Int32))), (1, .int (x1.1 + o7)), (0, .ref a_t)]) hx hb dX4_pullOfAll_21 hl (k := 2) rfl rfl (by decide) rfl (fun ls hl => ?_)
    refine lv_goto (tgt := 4) hx hb dX4_pullOfAll_24 (by decide) ?_
    exact hC2 _ (zs h) H locs ls hP hD hS (lv_sub hl [2, 1, 0] rfl)
theorem iw_X4_drawing_X4 : ∀ w ∈ wsX40, w ∈ wsX4_drawing := fun _ h => List.mem_cons_of_mem _ (List.mem_append_right _ h)
set_option maxHeartbeats 4000000 in
set_option maxRecDepth 100000 in
theorem c_X4_drawing (l : Launch) (G : va_G) (k : Nat → ClassId) (tL tM : Nat) (sK sV : Nat → Nat) (a_t : Nat) (a_t_traits : Nat) (sz : Nat) (t_draws : Int32) (t_foot : Int32) (t_point : Int32) (t_stiff : Int32) (t_bears : Int32) (t_year : Int32) (t_traits : Nat → Int32) (out : Int32) (h : p_X4_drawing t_draws t_year t_traits = some out) : zMi l yX4_drawing wsX4_drawing 1 22 G k tL tM sK sV [.ref a_t] [(a_t, .inr (4, [.ref a_t_traits, .int t_draws, .int t_foot, .int t_point, .int t_stiff, .int t_bears, .int t_year])), (a_t_traits, .inl (k 0, 20, .inl t_traits))] [(a_t, .inr (4, [.ref a_t_traits, .int t_draws, .int t_foot, .int t_point, .int t_stiff, .int t_bears, .int t_year])), (a_t_traits, .inl (k 0, 20, .inl t_traits))] out sz := by
  refine z_meti (cc := cX4_drawing) (maxL := 3) (by decide) rfl (Nat.le_of_ble_eq_true rfl) ?_
  intro p e s m below meth c A Q H locs ls hx hb hml hts hown hA hK hE hret hP hD hS hl
  have hown : s.vm.findClass RX4 = some m.cls := hown
  have hl : lv_has ls 3 [(0, .ref a_t)] := hl
  unfold p_X4_drawing at h
  refine lv_iconst (v := 0) hx hb dX4_drawing_0 (by decide) ?_
  refine lv_istore_n (lv' := [(1, .int (0 : Int32)), (0, .ref a_t)]) hx hb dX4_drawing_1 rfl hl (by decide) rfl (fun ls hl => ?_)
  refine lv_iconst (v := 0) hx hb dX4_drawing_2 (by decide) ?_
  refine lv_istore_n (lv' := [(2, .int (0 : Int32)), (1, .int (0 : Int32)), (0, .ref a_t)]) hx hb dX4_drawing_3 rfl hl (by decide) rfl (fun ls hl => ?_)
  obtain ⟨e5, hv, h⟩ := zb h
  have hJ4 : ∀ (e5_ : Int32), e5_ = e5 → zW p l e (zR 1 22) s m ([.ref a_t] : List Value).toArray below meth c Q 3 A G [(a_t, .inr (4, [.ref a_t_traits, .int t_draws, .int t_foot, .int t_point, .int t_stiff, .int t_bears, .int t_year])), (a_t_traits, .inl (k 0, 20, .inl t_traits))] [(1, .int e5_)] 34 [] := by
    intro e5_ hz
    subst hz
    intro H locs ls hP hD hS hl
    refine lv_iload_n hx hb dX4_drawing_34 rfl (lv_at hl 0 rfl) ?_
    have hr := (zs h)
    subst hr
    exact hret H locs ls 35 hP hS dX4_drawing_35
  refine z_lpW (Wh := fun (x1 : Int32 × Int32) => zW p l e (zR 1 22) s m ([.ref a_t] : List Value).toArray below meth c Q 3 A G [(a_t, .inr (4, [.ref a_t_traits, .int t_draws, .int t_foot, .int t_point, .int t_stiff, .int t_bears, .int t_year])), (a_t_traits, .inl (k 0, 20, .inl t_traits))] [(0, .ref a_t), (1, .int x1.1), (2, .int x1.2)] 4 []) ?_ 1000 _ hv H locs ls hP hD hS (lv_sub hl [2, 1, 0] rfl)
  clear h
  intro x1 o h hC2 hX3 H locs ls hP hD hS hl
  unfold p_X4_drawing_b4 at h
  refine lv_iload_n hx hb dX4_drawing_4 rfl (lv_at hl 2 rfl) ?_
  refine lv_aload_n hx hb dX4_drawing_5 rfl (lv_at hl 0 rfl) ?_
  refine va_get (D := G) (ci := 4) (v := .int t_draws) (C := RX4) (T := TX4) (N := 7) hx hb hts iw_X4_drawing_X4 hown hK hP 0 rfl rfl 1 (by decide) (hts (.fieldLink RX4 18 "SpireLean$Town" "draws" "I") (List.mem_of_getElem? (i := 1) rfl)) (fun _ h9 => h9) rfl dX4_drawing_6 ?_
  refine lv_icmp_ge (tgt := 34) hx hb dX4_drawing_9 (by decide) (fun c9 => ?_) (fun c9 => ?_)
  · have h := zit c9 h
    exact hJ4 _ (hX3 _ (zs h)) H locs ls hP hD hS (lv_sub hl [1] rfl)
  · have h := zif c9 h
    refine lv_aload_n hx hb dX4_drawing_12 rfl (lv_at hl 0 rfl) ?_
    refine va_get (D := G) (ci := 4) (v := .int t_year) (C := RX4) (T := TX4) (N := 7) hx hb hts iw_X4_drawing_X4 hown hK hP 0 rfl rfl 6 (by decide) (hts (.fieldLink RX4 34 "SpireLean$Town" "year" "I") (List.mem_of_getElem? (i := 2) rfl)) (fun _ h9 => h9) rfl dX4_drawing_13 ?_
    refine lv_aload_n hx hb dX4_drawing_16 rfl (lv_at hl 0 rfl) ?_
    refine lv_iload_n hx hb dX4_drawing_17 rfl (lv_at hl 2 rfl) ?_
    refine lv_iconst (v := 3) hx hb dX4_drawing_18 (by decide) ?_
    obtain ⟨o7, hv, h⟩ := zb h
    refine z_goi (w2 := [(a_t, .inr (4, [.ref a_t_traits, .int t_draws, .int t_foot, .int t_point, .int t_stiff, .int t_bears, .int t_year])), (a_t_traits, .inl (k 0, 20, .inl t_traits))]) [0, 1] (va_runV (As := [.int x1.2, .int (3 : Int32)]) (rest := [.int t_year]) ⟨hx, hb, hml, hown, hts⟩ (c_X4_trait l G k tL tM sK sV a_t a_t_traits H.size t_draws t_foot t_point t_stiff t_bears t_year t_traits x1.2 (3 : Int32) o7 hv) (cwV 2 hts gX4_drawing_X4_trait rfl rfl rfl (by decide +kernel) ⟨Nat.le_of_ble_eq_true rfl, Nat.le_of_ble_eq_true rfl⟩) (z_preV (wc := [(a_t, .inr (4, [.ref a_t_traits, .int t_draws, .int t_foot, .int t_point, .int t_stiff, .int t_bears, .int t_year])), (a_t_traits, .inl (k 0, 20, .inl t_traits))]) [0, 1] 0 4 hK hE hA hP hD hS (by decide) rfl rfl rfl) rfl rfl hl.1 rfl (lv_room (Nat.le_of_ble_eq_true rfl)) dX4_drawing_19 ⟨Nat.le_refl _, Nat.le_refl _⟩) hA hP hD hS rfl rfl rfl rfl (fun H locs hP hD hS => ?_)
    refine lv_icmp_lt (tgt := 28) hx hb dX4_drawing_22 (by decide) (fun c8 => ?_) (fun c8 => ?_)
    · have h := zit c8 h
      refine lv_iinc (v := x1.2 + (1 : Int32)) (lv' := [(2, .int (x1.2 + (1 : Int32))), (0, .ref a_t), (1, .int x1.1)]) hx hb dX4_drawing_28 hl (k := 2) rfl rfl (by decide) rfl (fun ls hl => ?_)
      refine lv_goto (tgt := 4) hx hb dX4_drawing_31 (by decide) ?_
      exact hC2 _ (zs h) H locs ls hP hD hS (lv_sub hl [1, 2, 0] rfl)
    · have h := zif c8 h
      refine lv_iinc (v := x1.1 + (1 : Int32)) (lv' := [(1, .int (x1.1 + (1 : Int32))), (0, .ref a_t), (2, .int x1.2)]) hx hb dX4_drawing_25 hl (k := 1) rfl rfl (by decide) rfl (fun ls hl => ?_)
      refine lv_iinc (v := x1.2 + (1 : Int32)) (lv' := [(2, .int (x1.2 + (1 : Int32))), (1, .int (x1.1 + (1 : Int32))), (0, .ref a_t)]) hx hb dX4_drawing_28 hl (k := 2) rfl rfl (by decide) rfl (fun ls hl => ?_)
      refine lv_goto (tgt := 4) hx hb dX4_drawing_31 (by decide) ?_
      exact hC2 _ (zs h) H locs ls hP hD hS (lv_sub hl [2, 1, 0] rfl)
