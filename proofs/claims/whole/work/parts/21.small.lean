set_option maxHeartbeats 4000000 in
set_option maxRecDepth 100000 in
theorem c_X0_clear (l : Launch) (G : va_G) (k : Nat → ClassId) (tL tM : Nat) (sK sV : Nat → Nat) (a_w : Nat) (sz : Nat) (w : Nat → Int64) (out : (Nat → Int64)) (h : p_X0_clear w = some out) : zMv l yX0_clear wsX0_clear 0 0 G k tL tM sK sV [.ref a_w] [(a_w, .inl (k 2, 100, .inr (.inl w)))] [(a_w, .inl (k 2, 100, .inr (.inl out)))] sz := by
  refine z_metv (cc := cX0_clear) (maxL := 2) (by decide) rfl (Nat.le_of_ble_eq_true rfl) ?_
  intro p e s m below meth c A Q H locs ls hx hb hml hts hown hA hK hE hret hP hD hS hl
  have hown : s.vm.findClass RX0 = some m.cls := hown
  have hl : lv_has ls 2 [(0, .ref a_w)] := hl
  unfold p_X0_clear at h
  refine lv_iconst (v := 0) hx hb dX0_clear_0 (by decide) ?_
  refine lv_istore_n (lv' := [(1, .int (0 : Int32)), (0, .ref a_w)]) hx hb dX0_clear_1 rfl hl (by decide) rfl (fun ls hl => ?_)
  obtain ⟨e5, hv, h⟩ := zb h
  have hJ4 : ∀ (e5_ : (Nat → Int64)), e5_ = e5 → zW p l e (zR 0 0) s m ([.ref a_w] : List Value).toArray below meth c Q 2 A G [(a_w, .inl (k 2, 100, .inr (.inl e5_)))] [] 18 [] := by
    intro e5_ hz
    subst hz
    intro H locs ls hP hD hS hl
    have hr := (zs h)
    subst hr
    exact hret H locs ls 18 hP hS dX0_clear_18
  refine z_lpW (Wh := fun (x1 : Int32 × (Nat → Int64)) => zW p l e (zR 0 0) s m ([.ref a_w] : List Value).toArray below meth c Q 2 A G [(a_w, .inl (k 2, 100, .inr (.inl x1.2)))] [(0, .ref a_w), (1, .int x1.1)] 2 []) ?_ 1000 _ hv H locs ls hP hD hS (lv_sub hl [1, 0] rfl)
  clear h
  intro x1 o h hC2 hX3 H locs ls hP hD hS hl
  unfold p_X0_clear_b2 at h
  refine lv_iload_n hx hb dX0_clear_2 rfl (lv_at hl 1 rfl) ?_
  refine lv_aload_n hx hb dX0_clear_3 rfl (lv_at hl 0 rfl) ?_
  refine va_alen (v := 100) hx hb hK hP 0 2 rfl rfl rfl dX0_clear_4 ?_
  refine lv_icmp_ge (tgt := 18) hx hb dX0_clear_5 (by decide) (fun c8 => ?_) (fun c8 => ?_)
  · have h := zit c8 h
    exact hJ4 _ (hX3 _ (zs h)) H locs ls hP hD hS (lv_sub hl [] rfl)
  · have h := zif c8 h
    refine lv_aload_n hx hb dX0_clear_8 rfl (lv_at hl 0 rfl) ?_
    refine lv_iload_n hx hb dX0_clear_9 rfl (lv_at hl 1 rfl) ?_
    refine lv_lconst (v := 0) hx hb dX0_clear_10 (by decide) ?_
    obtain ⟨v7, hv, h⟩ := zb h
    refine z_last hx hb hK hP hD hS 0 2 rfl rfl hv dX0_clear_11 (fun H locs hP hD hS => ?_)
    have hP : va_P G vwCl [(a_w, .inl (k 2, 100, .inr (.inl v7)))] H := hP
    have hD : va_D A [(a_w, .inl (k 2, 100, .inr (.inl v7)))] := hD
    refine lv_iinc (v := x1.1 + (1 : Int32)) (lv' := [(1, .int (x1.1 + (1 : Int32))), (0, .ref a_w)]) hx hb dX0_clear_12 hl (k := 1) rfl rfl (by decide) rfl (fun ls hl => ?_)
    refine lv_goto (tgt := 2) hx hb dX0_clear_15 (by decide) ?_
    exact hC2 _ (zs h) H locs ls hP hD hS (lv_sub hl [1, 0] rfl)
theorem iw_X0_passYear_X0 : ∀ w ∈ wsX00, w ∈ wsX0_passYear := fun _ h => List.mem_cons_of_mem _ (List.mem_append_left _ (List.mem_append_right _ h))
theorem iw_X0_passYear_X4 : ∀ w ∈ wsX40, w ∈ wsX0_passYear := fun _ h => List.mem_cons_of_mem _ (List.mem_append_right _ h)
set_option maxHeartbeats 4000000 in
set_option maxRecDepth 100000 in
theorem c_X0_passYear (l : Launch) (G : va_G) (k : Nat → ClassId) (tL tM : Nat) (sK sV : Nat → Nat) (a_d : Nat) (a_d_weights : Nat) (a_d_later : Nat) (a_t : Nat) (a_t_traits : Nat) (sz : Nat) (d_whole : Int64) (d_weights : Nat → Int64) (d_later : Nat → Int64) (t_draws : Int32) (t_foot : Int32) (t_point : Int32) (t_stiff : Int32) (t_bears : Int32) (t_year : Int32) (t_traits : Nat → Int32) (u2 : Int32) (out : (Nat → Int64) × (Nat → Int64) × Int32) (h : p_X0_passYear u2 d_weights d_later t_draws t_foot t_point t_stiff t_bears t_year t_traits = some out) : zMv l yX0_passYear wsX0_passYear 4 84 G k tL tM sK sV [.ref a_d, .ref a_t, .int u2] [(a_d, .inr (0, [.ref a_d_weights, .ref a_d_later, .long d_whole])), (a_d_weights, .inl (k 2, 100, .inr (.inl d_weights))), (a_d_later, .inl (k 2, 100, .inr (.inl d_later))), (a_t, .inr (4, [.ref a_t_traits, .int t_draws, .int t_foot, .int t_point, .int t_stiff, .int t_bears, .int t_year])), (a_t_traits, .inl (k 0, 20, .inl t_traits))] [(a_d, .inr (0, [.ref a_d_weights, .ref a_d_later, .long d_whole])), (a_d_weights, .inl (k 2, 100, .inr (.inl out.1))), (a_d_later, .inl (k 2, 100, .inr (.inl out.2.1))), (a_t, .inr (4, [.ref a_t_traits, .int t_draws, .int t_foot, .int out.2.2, .int t_stiff, .int t_bears, .int t_year])), (a_t_traits, .inl (k 0, 20, .inl t_traits))] sz := by
  refine z_metv (cc := cX0_passYear) (maxL := 4) (by decide) rfl (Nat.le_of_ble_eq_true rfl) ?_
  intro p e s m below meth c A Q H locs ls hx hb hml hts hown hA hK hE hret hP hD hS hl
  have hown : s.vm.findClass RX0 = some m.cls := hown
  have hl : lv_has ls 4 [(0, .ref a_d), (1, .ref a_t), (2, .int u2)] := hl
  unfold p_X0_passYear at h
  refine lv_aload_n hx hb dX0_passYear_0 rfl (lv_at hl 0 rfl) ?_
  refine va_get (D := G) (ci := 0) (v := .ref a_d_later) (C := RX0) (T := TX0) (N := 3) hx hb hts iw_X0_passYear_X0 hown hK hP 0 rfl rfl 1 (by decide) (hts (.fieldLink RX0 15 "SpireLean$Odds" "later" "[J") (List.mem_of_getElem? (i := 1) rfl)) (fun _ h9 => h9) rfl dX0_passYear_1 ?_
  obtain ⟨o1, hv, h⟩ := zb h
  refine z_gov (w2 := [(a_d, .inr (0, [.ref a_d_weights, .ref a_d_later, .long d_whole])), (a_d_weights, .inl (k 2, 100, .inr (.inl d_weights))), (a_d_later, .inl (k 2, 100, .inr (.inl o1))), (a_t, .inr (4, [.ref a_t_traits, .int t_draws, .int t_foot, .int t_point, .int t_stiff, .int t_bears, .int t_year])), (a_t_traits, .inl (k 0, 20, .inl t_traits))]) [2] (va_runS (As := [.ref a_d_later]) (rest := []) ⟨hx, hb, hml, hown, hts⟩ (c_X0_clear l G k tL tM sK sV a_d_later H.size d_later o1 hv) (va_cwS 1 hts gX0_passYear_X0_clear rfl rfl rfl (by decide +kernel) ⟨Nat.le_of_ble_eq_true rfl, Nat.le_of_ble_eq_true rfl⟩) (z_preS (wc := [(a_d_later, .inl (k 2, 100, .inr (.inl d_later)))]) [2] hK hE hA hP hD hS (by decide) rfl) rfl rfl hl.1 rfl (lv_room (Nat.le_of_ble_eq_true rfl)) dX0_passYear_4 ⟨Nat.le_refl _, Nat.le_refl _⟩) hA hP hD hS rfl rfl rfl rfl (fun H locs hP hD hS => ?_)
  refine lv_iconst (v := 0) hx hb dX0_passYear_7 (by decide) ?_
  refine lv_istore_n (lv' := [(3, .int (0 : Int32)), (0, .ref a_d), (1, .ref a_t), (2, .int u2)]) hx hb dX0_passYear_8 rfl hl (by decide) rfl (fun ls hl => ?_)
  obtain ⟨e6, hv, h⟩ := zb h
  have hJ5 : ∀ (e6_ : (Nat → Int64) × Int32), e6_ = e6 → zW p l e (zR 4 84) s m ([.ref a_d, .ref a_t, .int u2] : List Value).toArray below meth c Q 4 A G [(a_d, .inr (0, [.ref a_d_weights, .ref a_d_later, .long d_whole])), (a_d_weights, .inl (k 2, 100, .inr (.inl d_weights))), (a_d_later, .inl (k 2, 100, .inr (.inl e6_.1))), (a_t, .inr (4, [.ref a_t_traits, .int t_draws, .int t_foot, .int e6_.2, .int t_stiff, .int t_bears, .int t_year])), (a_t_traits, .inl (k 0, 20, .inl t_traits))] [(0, .ref a_d)] 83 [] := by
    intro e6_ hz
    subst hz
    intro H locs ls hP hD hS hl
    refine lv_aload_n hx hb dX0_passYear_83 rfl (lv_at hl 0 rfl) ?_
    refine va_get (D := G) (ci := 0) (v := .ref a_d_later) (C := RX0) (T := TX0) (N := 3) hx hb hts iw_X0_passYear_X0 hown hK hP 0 rfl rfl 1 (by decide) (hts (.fieldLink RX0 15 "SpireLean$Odds" "later" "[J") (List.mem_of_getElem? (i := 1) rfl)) (fun _ h9 => h9) rfl dX0_passYear_84 ?_
    refine lv_iconst (v := 0) hx hb dX0_passYear_87 (by decide) ?_
    refine lv_aload_n hx hb dX0_passYear_88 rfl (lv_at hl 0 rfl) ?_
    refine va_get (D := G) (ci := 0) (v := .ref a_d_weights) (C := RX0) (T := TX0) (N := 3) hx hb hts iw_X0_passYear_X0 hown hK hP 0 rfl rfl 0 (by decide) (hts (.fieldLink RX0 9 "SpireLean$Odds" "weights" "[J") (List.mem_of_getElem? (i := 2) rfl)) (fun _ h9 => h9) rfl dX0_passYear_89 ?_
    refine lv_iconst (v := 0) hx hb dX0_passYear_92 (by decide) ?_
    refine lv_bipush (v := 100) hx hb dX0_passYear_93 (by decide) ?_
    refine va_copyl hx hb (hml.trans hl.1.symm) hown (hts (.methodLink RX0 49 arraycopyName) (List.mem_of_getElem? (i := 3) rfl)) (hts (.native arraycopyName) (List.mem_of_getElem? (i := 4) rfl)) (hts (.static arraycopyName) (List.mem_of_getElem? (i := 5) rfl)) (hts (.initialized "java/lang/System") (List.mem_of_getElem? (i := 6) rfl)) hK hP hD hS 2 1 2 2 rfl rfl rfl rfl rfl (by decide) (by decide) (by decide) (by decide) (by decide) (fun _ _ => rfl) (Nat.le_of_ble_eq_true rfl) (Nat.le_of_ble_eq_true rfl) dX0_passYear_95 (fun H locs hP hD hS => ?_)
    have hP : va_P G vwCl [(a_d, .inr (0, [.ref a_d_weights, .ref a_d_later, .long d_whole])), (a_d_weights, .inl (k 2, 100, .inr (.inl (va_cpy e6_.1 d_weights (0 : Int32).toNatClampNeg (0 : Int32).toNatClampNeg (100 : Int32).toNatClampNeg)))), (a_d_later, .inl (k 2, 100, .inr (.inl e6_.1))), (a_t, .inr (4, [.ref a_t_traits, .int t_draws, .int t_foot, .int e6_.2, .int t_stiff, .int t_bears, .int t_year])), (a_t_traits, .inl (k 0, 20, .inl t_traits))] H := hP
    have hD : va_D A [(a_d, .inr (0, [.ref a_d_weights, .ref a_d_later, .long d_whole])), (a_d_weights, .inl (k 2, 100, .inr (.inl (va_cpy e6_.1 d_weights (0 : Int32).toNatClampNeg (0 : Int32).toNatClampNeg (100 : Int32).toNatClampNeg)))), (a_d_later, .inl (k 2, 100, .inr (.inl e6_.1))), (a_t, .inr (4, [.ref a_t_traits, .int t_draws, .int t_foot, .int e6_.2, .int t_stiff, .int t_bears, .int t_year])), (a_t_traits, .inl (k 0, 20, .inl t_traits))] := hD
    have hr := (zs h)
    subst hr
    exact hret H locs ls 98 hP hS dX0_passYear_98
  refine z_lpW (Wh := fun (x2 : Int32 × (Nat → Int64) × Int32) => zW p l e (zR 4 84) s m ([.ref a_d, .ref a_t, .int u2] : List Value).toArray below meth c Q 4 A G [(a_d, .inr (0, [.ref a_d_weights, .ref a_d_later, .long d_whole])), (a_d_weights, .inl (k 2, 100, .inr (.inl d_weights))), (a_d_later, .inl (k 2, 100, .inr (.inl x2.2.1))), (a_t, .inr (4, [.ref a_t_traits, .int t_draws, .int t_foot, .int x2.2.2, .int t_stiff, .int t_bears, .int t_year])), (a_t_traits, .inl (k 0, 20, .inl t_traits))] [(0, .ref a_d), (1, .ref a_t), (2, .int u2), (3, .int x2.1)] 9 []) ?_ 1000 _ hv H locs ls hP hD hS (lv_sub hl [1, 2, 3, 0] rfl)
  clear h
  intro x2 o h hC3 hX4 H locs ls hP hD hS hl
  unfold p_X0_passYear_b9 at h
  refine lv_iload_n hx hb dX0_passYear_9 rfl (lv_at hl 3 rfl) ?_
  refine lv_bipush (v := 100) hx hb dX0_passYear_10 (by decide) ?_
  refine lv_icmp_ge (tgt := 83) hx hb dX0_passYear_12 (by decide) (fun c18 => ?_) (fun c18 => ?_)
  · have h := zit c18 h
    exact hJ5 _ (hX4 _ (zs h)) H locs ls hP hD hS (lv_sub hl [0] rfl)
  · have h := zif c18 h
    refine lv_aload_n hx hb dX0_passYear_15 rfl (lv_at hl 0 rfl) ?_
    refine va_get (D := G) (ci := 0) (v := .ref a_d_weights) (C := RX0) (T := TX0) (N := 3) hx hb hts iw_X0_passYear_X0 hown hK hP 0 rfl rfl 0 (by decide) (hts (.fieldLink RX0 9 "SpireLean$Odds" "weights" "[J") (List.mem_of_getElem? (i := 2) rfl)) (fun _ h9 => h9) rfl dX0_passYear_16 ?_
    refine lv_iload_n hx hb dX0_passYear_19 rfl (lv_at hl 3 rfl) ?_
    obtain ⟨v8, hv, h⟩ := zb h
    refine z_lald hx hb hK hP 1 2 rfl rfl hv dX0_passYear_20 ?_
    refine lv_lconst (v := 0) hx hb dX0_passYear_21 (by decide) ?_
    refine W.lcmp hx hb dX0_passYear_22 ?_
    refine lv_if_eq (tgt := 77) hx hb dX0_passYear_23 (by decide) (fun c17 => ?_) (fun c17 => ?_)
    · have h := zit c17 h
      refine lv_iinc (v := x2.1 + (1 : Int32)) (lv' := [(3, .int (x2.1 + (1 : Int32))), (0, .ref a_d), (1, .ref a_t), (2, .int u2)]) hx hb dX0_passYear_77 hl (k := 3) rfl rfl (by decide) rfl (fun ls hl => ?_)
      refine lv_goto (tgt := 9) hx hb dX0_passYear_80 (by decide) ?_
      exact hC3 _ (zs h) H locs ls hP hD hS (lv_sub hl [1, 2, 3, 0] rfl)
    · have h := zif c17 h
      refine lv_aload_n hx hb dX0_passYear_26 rfl (lv_at hl 1 rfl) ?_
      refine lv_iload_n hx hb dX0_passYear_27 rfl (lv_at hl 3 rfl) ?_
      refine va_putN (D := G) (ci := 4) (v := .int x2.1) (ty := .int) (C := RX4) (T := TX4) (N := 7) hx hb hts iw_X0_passYear_X4 tyX4 tyX4_ok nmX4 hown hK hP hD hS 3 rfl rfl 3 (by decide) (va_Nw.use rfl (hE.1 (.fieldLinkNest RX0 22 "SpireLean$Town" "point" "I" "SpireLean") (List.mem_of_getElem? (i := 3) rfl))) (fun _ h9 => h9) rfl (tyX4_ok 3 (by decide)) rfl rfl (Nat.le_of_ble_eq_true rfl) dX0_passYear_28 (fun H locs hP hD hS => ?_)
      have hP : va_P G vwCl [(a_d, .inr (0, [.ref a_d_weights, .ref a_d_later, .long d_whole])), (a_d_weights, .inl (k 2, 100, .inr (.inl d_weights))), (a_d_later, .inl (k 2, 100, .inr (.inl x2.2.1))), (a_t, .inr (4, [.ref a_t_traits, .int t_draws, .int t_foot, .int x2.1, .int t_stiff, .int t_bears, .int t_year])), (a_t_traits, .inl (k 0, 20, .inl t_traits))] H := hP
      have hD : va_D A [(a_d, .inr (0, [.ref a_d_weights, .ref a_d_later, .long d_whole])), (a_d_weights, .inl (k 2, 100, .inr (.inl d_weights))), (a_d_later, .inl (k 2, 100, .inr (.inl x2.2.1))), (a_t, .inr (4, [.ref a_t_traits, .int t_draws, .int t_foot, .int x2.1, .int t_stiff, .int t_bears, .int t_year])), (a_t_traits, .inl (k 0, 20, .inl t_traits))] := hD
      refine lv_aload_n hx hb dX0_passYear_31 rfl (lv_at hl 0 rfl) ?_
      refine va_get (D := G) (ci := 0) (v := .ref a_d_later) (C := RX0) (T := TX0) (N := 3) hx hb hts iw_X0_passYear_X0 hown hK hP 0 rfl rfl 1 (by decide) (hts (.fieldLink RX0 15 "SpireLean$Odds" "later" "[J") (List.mem_of_getElem? (i := 1) rfl)) (fun _ h9 => h9) rfl dX0_passYear_32 ?_
      refine lv_iload_n hx hb dX0_passYear_35 rfl (lv_at hl 3 rfl) ?_
      refine lv_dup2_11 hx hb dX0_passYear_36 rfl rfl ?_
      obtain ⟨v9, hv, h⟩ := zb h
      refine z_lald hx hb hK hP 2 2 rfl rfl hv dX0_passYear_37 ?_
      refine lv_iload_n hx hb dX0_passYear_38 rfl (lv_at hl 2 rfl) ?_
      refine lv_i2l (v := u2.toInt64) hx hb dX0_passYear_39 rfl ?_
      refine lv_aload_n hx hb dX0_passYear_40 rfl (lv_at hl 0 rfl) ?_
      refine va_get (D := G) (ci := 0) (v := .ref a_d_weights) (C := RX0) (T := TX0) (N := 3) hx hb hts iw_X0_passYear_X0 hown hK hP 0 rfl rfl 0 (by decide) (hts (.fieldLink RX0 9 "SpireLean$Odds" "weights" "[J") (List.mem_of_getElem? (i := 2) rfl)) (fun _ h9 => h9) rfl dX0_passYear_41 ?_
      refine lv_iload_n hx hb dX0_passYear_44 rfl (lv_at hl 3 rfl) ?_
      obtain ⟨v10, hv, h⟩ := zb h
      refine z_lald hx hb hK hP 1 2 rfl rfl hv dX0_passYear_45 ?_
      refine lv_lmul hx hb dX0_passYear_46 ?_
      refine lv_ladd hx hb dX0_passYear_47 ?_
      obtain ⟨v11, hv, h⟩ := zb h
      refine z_last hx hb hK hP hD hS 2 2 rfl rfl hv dX0_passYear_48 (fun H locs hP hD hS => ?_)
      have hP : va_P G vwCl [(a_d, .inr (0, [.ref a_d_weights, .ref a_d_later, .long d_whole])), (a_d_weights, .inl (k 2, 100, .inr (.inl d_weights))), (a_d_later, .inl (k 2, 100, .inr (.inl v11))), (a_t, .inr (4, [.ref a_t_traits, .int t_draws, .int t_foot, .int x2.1, .int t_stiff, .int t_bears, .int t_year])), (a_t_traits, .inl (k 0, 20, .inl t_traits))] H := hP
      have hD : va_D A [(a_d, .inr (0, [.ref a_d_weights, .ref a_d_later, .long d_whole])), (a_d_weights, .inl (k 2, 100, .inr (.inl d_weights))), (a_d_later, .inl (k 2, 100, .inr (.inl v11))), (a_t, .inr (4, [.ref a_t_traits, .int t_draws, .int t_foot, .int x2.1, .int t_stiff, .int t_bears, .int t_year])), (a_t_traits, .inl (k 0, 20, .inl t_traits))] := hD
      refine lv_aload_n hx hb dX0_passYear_49 rfl (lv_at hl 0 rfl) ?_
      refine va_get (D := G) (ci := 0) (v := .ref a_d_later) (C := RX0) (T := TX0) (N := 3) hx hb hts iw_X0_passYear_X0 hown hK hP 0 rfl rfl 1 (by decide) (hts (.fieldLink RX0 15 "SpireLean$Odds" "later" "[J") (List.mem_of_getElem? (i := 1) rfl)) (fun _ h9 => h9) rfl dX0_passYear_50 ?_
      refine lv_aload_n hx hb dX0_passYear_53 rfl (lv_at hl 1 rfl) ?_
      refine lv_aload_n hx hb dX0_passYear_54 rfl (lv_at hl 1 rfl) ?_
      obtain ⟨o12, hv, h⟩ := zb h
      refine z_goi (w2 := [(a_d, .inr (0, [.ref a_d_weights, .ref a_d_later, .long d_whole])), (a_d_weights, .inl (k 2, 100, .inr (.inl d_weights))), (a_d_later, .inl (k 2, 100, .inr (.inl v11))), (a_t, .inr (4, [.ref a_t_traits, .int t_draws, .int t_foot, .int x2.1, .int t_stiff, .int t_bears, .int t_year])), (a_t_traits, .inl (k 0, 20, .inl t_traits))]) [3, 4] (va_runVN (As := []) (rest := [.ref a_t, .ref a_d_later]) ⟨hx, hb, hml, hown, hts⟩ (c_X4_holder l G k tL tM sK sV a_t a_t_traits H.size t_draws t_foot x2.1 t_stiff t_bears t_year t_traits o12 hv) ⟨va_cnB 0 hts gX0_passYear_X4_holder_n41 rfl rfl rfl (hE.1 (.methodLinkNest RX0 41 yX4_holder "SpireLean") (List.mem_of_getElem? (i := 59) rfl)) (hts (.initialized RX4) (List.mem_of_getElem? (i := 12) rfl)) (by decide +kernel) ⟨Nat.le_of_ble_eq_true rfl, Nat.le_of_ble_eq_true rfl⟩, (hts (.instanceMethod yX4_holder) (List.mem_of_getElem? (i := 11) rfl)), (hts (.selects RX4 yX4_holder yX4_holder) (List.mem_of_getElem? (i := 13) rfl))⟩ (z_preV (wc := [(a_t, .inr (4, [.ref a_t_traits, .int t_draws, .int t_foot, .int x2.1, .int t_stiff, .int t_bears, .int t_year])), (a_t_traits, .inl (k 0, 20, .inl t_traits))]) [3, 4] 3 4 hK hE hA hP hD hS (by decide) rfl rfl rfl) rfl rfl hl.1 rfl (lv_room (Nat.le_of_ble_eq_true rfl)) dX0_passYear_55 ⟨Nat.le_refl _, Nat.le_refl _⟩) hA hP hD hS rfl rfl rfl rfl (fun H locs hP hD hS => ?_)
      obtain ⟨o13, hv, h⟩ := zb h
      refine z_goi (w2 := [(a_d, .inr (0, [.ref a_d_weights, .ref a_d_later, .long d_whole])), (a_d_weights, .inl (k 2, 100, .inr (.inl d_weights))), (a_d_later, .inl (k 2, 100, .inr (.inl v11))), (a_t, .inr (4, [.ref a_t_traits, .int t_draws, .int t_foot, .int x2.1, .int t_stiff, .int t_bears, .int t_year])), (a_t_traits, .inl (k 0, 20, .inl t_traits))]) [3, 4] (va_runVN (As := [.int o12]) (rest := [.ref a_d_later]) ⟨hx, hb, hml, hown, hts⟩ (c_X4_nextPoint l G k tL tM sK sV a_t a_t_traits H.size t_draws t_foot x2.1 t_stiff t_bears t_year t_traits o12 o13 hv) ⟨va_cnB 1 hts gX0_passYear_X4_nextPoint_n45 rfl rfl rfl (hE.1 (.methodLinkNest RX0 45 yX4_nextPoint "SpireLean") (List.mem_of_getElem? (i := 60) rfl)) (hts (.initialized RX4) (List.mem_of_getElem? (i := 12) rfl)) (by decide +kernel) ⟨Nat.le_of_ble_eq_true rfl, Nat.le_of_ble_eq_true rfl⟩, (hts (.instanceMethod yX4_nextPoint) (List.mem_of_getElem? (i := 40) rfl)), (hts (.selects RX4 yX4_nextPoint yX4_nextPoint) (List.mem_of_getElem? (i := 41) rfl))⟩ (z_preV (wc := [(a_t, .inr (4, [.ref a_t_traits, .int t_draws, .int t_foot, .int x2.1, .int t_stiff, .int t_bears, .int t_year])), (a_t_traits, .inl (k 0, 20, .inl t_traits))]) [3, 4] 3 4 hK hE hA hP hD hS (by decide) rfl rfl rfl) rfl rfl hl.1 rfl (lv_room (Nat.le_of_ble_eq_true rfl)) dX0_passYear_58 ⟨Nat.le_refl _, Nat.le_refl _⟩) hA hP hD hS rfl rfl rfl rfl (fun H locs hP hD hS => ?_)
      refine lv_dup2_11 hx hb dX0_passYear_61 rfl rfl ?_
      obtain ⟨v14, hv, h⟩ := zb h
      refine z_lald hx hb hK hP 2 2 rfl rfl hv dX0_passYear_62 ?_
      refine lv_bipush (v := 10) hx hb dX0_passYear_63 (by decide) ?_
      refine lv_iload_n hx hb dX0_passYear_65 rfl (lv_at hl 2 rfl) ?_
      refine lv_isub hx hb dX0_passYear_66 ?_
      refine lv_i2l (v := ((10 : Int32) - u2).toInt64) hx hb dX0_passYear_67 rfl ?_
      refine lv_aload_n hx hb dX0_passYear_68 rfl (lv_at hl 0 rfl) ?_
      refine va_get (D := G) (ci := 0) (v := .ref a_d_weights) (C := RX0) (T := TX0) (N := 3) hx hb hts iw_X0_passYear_X0 hown hK hP 0 rfl rfl 0 (by decide) (hts (.fieldLink RX0 9 "SpireLean$Odds" "weights" "[J") (List.mem_of_getElem? (i := 2) rfl)) (fun _ h9 => h9) rfl dX0_passYear_69 ?_
      refine lv_iload_n hx hb dX0_passYear_72 rfl (lv_at hl 3 rfl) ?_
      obtain ⟨v15, hv, h⟩ := zb h
      refine z_lald hx hb hK hP 1 2 rfl rfl hv dX0_passYear_73 ?_
      refine lv_lmul hx hb dX0_passYear_74 ?_
      refine lv_ladd hx hb dX0_passYear_75 ?_
      obtain ⟨v16, hv, h⟩ := zb h
      refine z_last hx hb hK hP hD hS 2 2 rfl rfl hv dX0_passYear_76 (fun H locs hP hD hS => ?_)
      have hP : va_P G vwCl [(a_d, .inr (0, [.ref a_d_weights, .ref a_d_later, .long d_whole])), (a_d_weights, .inl (k 2, 100, .inr (.inl d_weights))), (a_d_later, .inl (k 2, 100, .inr (.inl v16))), (a_t, .inr (4, [.ref a_t_traits, .int t_draws, .int t_foot, .int x2.1, .int t_stiff, .int t_bears, .int t_year])), (a_t_traits, .inl (k 0, 20, .inl t_traits))] H := hP
      have hD : va_D A [(a_d, .inr (0, [.ref a_d_weights, .ref a_d_later, .long d_whole])), (a_d_weights, .inl (k 2, 100, .inr (.inl d_weights))), (a_d_later, .inl (k 2, 100, .inr (.inl v16))), (a_t, .inr (4, [.ref a_t_traits, .int t_draws, .int t_foot, .int x2.1, .int t_stiff, .int t_bears, .int t_year])), (a_t_traits, .inl (k 0, 20, .inl t_traits))] := hD
      refine lv_iinc (v := x2.1 + (1 : Int32)) (lv' := [(3, .int (x2.1 + (1 : Int32))), (0, .ref a_d), (1, .ref a_t), (2, .int u2)]) hx hb dX0_passYear_77 hl (k := 3) rfl rfl (by decide) rfl (fun ls hl => ?_)
      refine lv_goto (tgt := 9) hx hb dX0_passYear_80 (by decide) ?_
      exact hC3 _ (zs h) H locs ls hP hD hS (lv_sub hl [1, 2, 3, 0] rfl)
theorem iw_X0_spread_X0 : ∀ w ∈ wsX00, w ∈ wsX0_spread := fun _ h => List.mem_cons_of_mem _ (List.mem_append_left _ (List.mem_append_right _ h))
theorem iw_X0_spread_X4 : ∀ w ∈ wsX40, w ∈ wsX0_spread := fun _ h => List.mem_cons_of_mem _ (List.mem_append_right _ h)
set_option maxHeartbeats 4000000 in
set_option maxRecDepth 100000 in
theorem c_X0_spread (l : Launch) (G : va_G) (k : Nat → ClassId) (tL tM : Nat) (sK sV : Nat → Nat) (a_d : Nat) (a_d_weights : Nat) (a_d_later : Nat) (a_t : Nat) (a_t_traits : Nat) (sz : Nat) (d_whole : Int64) (d_weights : Nat → Int64) (d_later : Nat → Int64) (t_draws : Int32) (t_foot : Int32) (t_point : Int32) (t_stiff : Int32) (t_bears : Int32) (t_year : Int32) (t_traits : Nat → Int32) (u2 : Int32) (u3 : Int32) (out : Int64 × (Nat → Int64) × (Nat → Int64) × Int32 × Int32) (h : p_X0_spread u2 u3 d_weights d_later t_draws t_foot t_point t_stiff t_bears t_year t_traits = some out) : zMv l yX0_spread wsX0_spread 5 107 G k tL tM sK sV [.ref a_d, .ref a_t, .int u2, .int u3] [(a_d, .inr (0, [.ref a_d_weights, .ref a_d_later, .long d_whole])), (a_d_weights, .inl (k 2, 100, .inr (.inl d_weights))), (a_d_later, .inl (k 2, 100, .inr (.inl d_later))), (a_t, .inr (4, [.ref a_t_traits, .int t_draws, .int t_foot, .int t_point, .int t_stiff, .int t_bears, .int t_year])), (a_t_traits, .inl (k 0, 20, .inl t_traits))] [(a_d, .inr (0, [.ref a_d_weights, .ref a_d_later, .long out.1])), (a_d_weights, .inl (k 2, 100, .inr (.inl out.2.1))), (a_d_later, .inl (k 2, 100, .inr (.inl out.2.2.1))), (a_t, .inr (4, [.ref a_t_traits, .int t_draws, .int t_foot, .int out.2.2.2.1, .int t_stiff, .int t_bears, .int out.2.2.2.2])), (a_t_traits, .inl (k 0, 20, .inl t_traits))] sz := by
  refine z_metv (cc := cX0_spread) (maxL := 5) (by decide) rfl (Nat.le_of_ble_eq_true rfl) ?_
  intro p e s m below meth c A Q H locs ls hx hb hml hts hown hA hK hE hret hP hD hS hl
  have hown : s.vm.findClass RX0 = some m.cls := hown
  have hl : lv_has ls 5 [(0, .ref a_d), (1, .ref a_t), (2, .int u2), (3, .int u3)] := hl
  unfold p_X0_spread at h
  refine lv_aload_n hx hb dX0_spread_0 rfl (lv_at hl 0 rfl) ?_
  refine va_get (D := G) (ci := 0) (v := .ref a_d_weights) (C := RX0) (T := TX0) (N := 3) hx hb hts iw_X0_spread_X0 hown hK hP 0 rfl rfl 0 (by decide) (hts (.fieldLink RX0 9 "SpireLean$Odds" "weights" "[J") (List.mem_of_getElem? (i := 1) rfl)) (fun _ h9 => h9) rfl dX0_spread_1 ?_
  obtain ⟨o1, hv, h⟩ := zb h
  refine z_gov (w2 := [(a_d, .inr (0, [.ref a_d_weights, .ref a_d_later, .long d_whole])), (a_d_weights, .inl (k 2, 100, .inr (.inl o1))), (a_d_later, .inl (k 2, 100, .inr (.inl d_later))), (a_t, .inr (4, [.ref a_t_traits, .int t_draws, .int t_foot, .int t_point, .int t_stiff, .int t_bears, .int t_year])), (a_t_traits, .inl (k 0, 20, .inl t_traits))]) [1] (va_runS (As := [.ref a_d_weights]) (rest := []) ⟨hx, hb, hml, hown, hts⟩ (c_X0_clear l G k tL tM sK sV a_d_weights H.size d_weights o1 hv) (va_cwS 1 hts gX0_spread_X0_clear rfl rfl rfl (by decide +kernel) ⟨Nat.le_of_ble_eq_true rfl, Nat.le_of_ble_eq_true rfl⟩) (z_preS (wc := [(a_d_weights, .inl (k 2, 100, .inr (.inl d_weights)))]) [1] hK hE hA hP hD hS (by decide) rfl) rfl rfl hl.1 rfl (lv_room (Nat.le_of_ble_eq_true rfl)) dX0_spread_4 ⟨Nat.le_refl _, Nat.le_refl _⟩) hA hP hD hS rfl rfl rfl rfl (fun H locs hP hD hS => ?_)
  refine lv_aload_n hx hb dX0_spread_7 rfl (lv_at hl 0 rfl) ?_
  refine va_get (D := G) (ci := 0) (v := .ref a_d_weights) (C := RX0) (T := TX0) (N := 3) hx hb hts iw_X0_spread_X0 hown hK hP 0 rfl rfl 0 (by decide) (hts (.fieldLink RX0 9 "SpireLean$Odds" "weights" "[J") (List.mem_of_getElem? (i := 1) rfl)) (fun _ h9 => h9) rfl dX0_spread_8 ?_
  refine lv_aload_n hx hb dX0_spread_11 rfl (lv_at hl 1 rfl) ?_
  refine va_getN (D := G) (ci := 4) (v := .int t_point) (C := RX4) (T := TX4) (N := 7) hx hb hts iw_X0_spread_X4 hown hK hP 3 rfl rfl 3 (by decide) (va_Nw.use rfl (hE.1 (.fieldLinkNest RX0 22 "SpireLean$Town" "point" "I" "SpireLean") (List.mem_of_getElem? (i := 3) rfl))) (fun _ h9 => h9) rfl dX0_spread_12 ?_
  refine lv_lconst (v := 1) hx hb dX0_spread_15 (by decide) ?_
  obtain ⟨v2, hv, h⟩ := zb h
  refine z_last hx hb hK hP hD hS 1 2 rfl rfl hv dX0_spread_16 (fun H locs hP hD hS => ?_)
  have hP : va_P G vwCl [(a_d, .inr (0, [.ref a_d_weights, .ref a_d_later, .long d_whole])), (a_d_weights, .inl (k 2, 100, .inr (.inl v2))), (a_d_later, .inl (k 2, 100, .inr (.inl d_later))), (a_t, .inr (4, [.ref a_t_traits, .int t_draws, .int t_foot, .int t_point, .int t_stiff, .int t_bears, .int t_year])), (a_t_traits, .inl (k 0, 20, .inl t_traits))] H := hP
  have hD : va_D A [(a_d, .inr (0, [.ref a_d_weights, .ref a_d_later, .long d_whole])), (a_d_weights, .inl (k 2, 100, .inr (.inl v2))), (a_d_later, .inl (k 2, 100, .inr (.inl d_later))), (a_t, .inr (4, [.ref a_t_traits, .int t_draws, .int t_foot, .int t_point, .int t_stiff, .int t_bears, .int t_year])), (a_t_traits, .inl (k 0, 20, .inl t_traits))] := hD
  refine lv_aload_n hx hb dX0_spread_17 rfl (lv_at hl 0 rfl) ?_
  refine lv_lconst (v := 1) hx hb dX0_spread_18 (by decide) ?_
  refine va_put (D := G) (ci := 0) (v := .long (1 : Int64)) (ty := .long) (C := RX0) (T := TX0) (N := 3) hx hb hts iw_X0_spread_X0 tyX0 tyX0_ok nmX0 hown hK hP hD hS 0 rfl rfl 2 (by decide) (hts (.fieldLink RX0 28 "SpireLean$Odds" "whole" "J") (List.mem_of_getElem? (i := 2) rfl)) (fun _ h9 => h9) rfl (tyX0_ok 2 (by decide)) rfl rfl (Nat.le_of_ble_eq_true rfl) dX0_spread_19 (fun H locs hP hD hS => ?_)
  have hP : va_P G vwCl [(a_d, .inr (0, [.ref a_d_weights, .ref a_d_later, .long (1 : Int64)])), (a_d_weights, .inl (k 2, 100, .inr (.inl v2))), (a_d_later, .inl (k 2, 100, .inr (.inl d_later))), (a_t, .inr (4, [.ref a_t_traits, .int t_draws, .int t_foot, .int t_point, .int t_stiff, .int t_bears, .int t_year])), (a_t_traits, .inl (k 0, 20, .inl t_traits))] H := hP
  have hD : va_D A [(a_d, .inr (0, [.ref a_d_weights, .ref a_d_later, .long (1 : Int64)])), (a_d_weights, .inl (k 2, 100, .inr (.inl v2))), (a_d_later, .inl (k 2, 100, .inr (.inl d_later))), (a_t, .inr (4, [.ref a_t_traits, .int t_draws, .int t_foot, .int t_point, .int t_stiff, .int t_bears, .int t_year])), (a_t_traits, .inl (k 0, 20, .inl t_traits))] := hD
  refine lv_iconst (v := 0) hx hb dX0_spread_22 (by decide) ?_
  refine lv_istore (lv' := [(4, .int (0 : Int32)), (0, .ref a_d), (1, .ref a_t), (2, .int u2), (3, .int u3)]) hx hb dX0_spread_23 hl (by decide) rfl (fun ls hl => ?_)
  obtain ⟨e7, hv, h⟩ := zb h
  have hJ6 : ∀ (e7_ : Int64 × (Nat → Int64) × (Nat → Int64) × Int32 × Int32), e7_ = e7 → zW p l e (zR 5 107) s m ([.ref a_d, .ref a_t, .int u2, .int u3] : List Value).toArray below meth c Q 5 A G [(a_d, .inr (0, [.ref a_d_weights, .ref a_d_later, .long e7_.1])), (a_d_weights, .inl (k 2, 100, .inr (.inl e7_.2.1))), (a_d_later, .inl (k 2, 100, .inr (.inl e7_.2.2.1))), (a_t, .inr (4, [.ref a_t_traits, .int t_draws, .int t_foot, .int e7_.2.2.2.1, .int t_stiff, .int t_bears, .int e7_.2.2.2.2])), (a_t_traits, .inl (k 0, 20, .inl t_traits))] [] 65 [] := by
    intro e7_ hz
    subst hz
    intro H locs ls hP hD hS hl
    have hr := (zs h)
    subst hr
    exact hret H locs ls 65 hP hS dX0_spread_65
  refine z_lpW (Wh := fun (x3 : Int32 × Int64 × (Nat → Int64) × (Nat → Int64) × Int32 × Int32) => zW p l e (zR 5 107) s m ([.ref a_d, .ref a_t, .int u2, .int u3] : List Value).toArray below meth c Q 5 A G [(a_d, .inr (0, [.ref a_d_weights, .ref a_d_later, .long x3.2.1])), (a_d_weights, .inl (k 2, 100, .inr (.inl x3.2.2.1))), (a_d_later, .inl (k 2, 100, .inr (.inl x3.2.2.2.1))), (a_t, .inr (4, [.ref a_t_traits, .int t_draws, .int t_foot, .int x3.2.2.2.2.1, .int t_stiff, .int t_bears, .int x3.2.2.2.2.2])), (a_t_traits, .inl (k 0, 20, .inl t_traits))] [(0, .ref a_d), (1, .ref a_t), (2, .int u2), (3, .int u3), (4, .int x3.1)] 25 []) ?_ 1000 _ hv H locs ls hP hD hS (lv_sub hl [1, 2, 3, 4, 0] rfl)
  clear h
  intro x3 o h hC4 hX5 H locs ls hP hD hS hl
  unfold p_X0_spread_b25 at h
  refine lv_iload hx hb dX0_spread_25 (lv_at hl 4 rfl) ?_
  refine lv_iload_n hx hb dX0_spread_27 rfl (lv_at hl 3 rfl) ?_
  refine lv_icmp_ge (tgt := 65) hx hb dX0_spread_28 (by decide) (fun c10 => ?_) (fun c10 => ?_)
  · have h := zit c10 h
    exact hJ6 _ (hX5 _ (zs h)) H locs ls hP hD hS (lv_sub hl [] rfl)
  · have h := zif c10 h
    refine lv_aload_n hx hb dX0_spread_31 rfl (lv_at hl 0 rfl) ?_
    refine lv_aload_n hx hb dX0_spread_32 rfl (lv_at hl 1 rfl) ?_
    refine lv_iload_n hx hb dX0_spread_33 rfl (lv_at hl 2 rfl) ?_
    obtain ⟨o9, hv, h⟩ := zb h
    refine z_gov (w2 := [(a_d, .inr (0, [.ref a_d_weights, .ref a_d_later, .long x3.2.1])), (a_d_weights, .inl (k 2, 100, .inr (.inl o9.1))), (a_d_later, .inl (k 2, 100, .inr (.inl o9.2.1))), (a_t, .inr (4, [.ref a_t_traits, .int t_draws, .int t_foot, .int o9.2.2, .int t_stiff, .int t_bears, .int x3.2.2.2.2.2])), (a_t_traits, .inl (k 0, 20, .inl t_traits))]) [0, 1, 2, 3, 4] (va_runV (As := [.ref a_t, .int u2]) (rest := []) ⟨hx, hb, hml, hown, hts⟩ (c_X0_passYear l G k tL tM sK sV a_d a_d_weights a_d_later a_t a_t_traits H.size x3.2.1 x3.2.2.1 x3.2.2.2.1 t_draws t_foot x3.2.2.2.2.1 t_stiff t_bears x3.2.2.2.2.2 t_traits u2 o9 hv) (cwV 2 hts gX0_spread_X0_passYear rfl rfl rfl (by decide +kernel) ⟨Nat.le_of_ble_eq_true rfl, Nat.le_of_ble_eq_true rfl⟩) (z_preV (wc := [(a_d, .inr (0, [.ref a_d_weights, .ref a_d_later, .long x3.2.1])), (a_d_weights, .inl (k 2, 100, .inr (.inl x3.2.2.1))), (a_d_later, .inl (k 2, 100, .inr (.inl x3.2.2.2.1))), (a_t, .inr (4, [.ref a_t_traits, .int t_draws, .int t_foot, .int x3.2.2.2.2.1, .int t_stiff, .int t_bears, .int x3.2.2.2.2.2])), (a_t_traits, .inl (k 0, 20, .inl t_traits))]) [0, 1, 2, 3, 4] 0 0 hK hE hA hP hD hS (by decide) rfl rfl rfl) rfl rfl hl.1 rfl (lv_room (Nat.le_of_ble_eq_true rfl)) dX0_spread_34 ⟨Nat.le_refl _, Nat.le_refl _⟩) hA hP hD hS rfl rfl rfl rfl (fun H locs hP hD hS => ?_)
    refine lv_aload_n hx hb dX0_spread_37 rfl (lv_at hl 1 rfl) ?_
    refine lv_dup hx hb dX0_spread_38 rfl ?_
    refine va_getN (D := G) (ci := 4) (v := .int x3.2.2.2.2.2) (C := RX4) (T := TX4) (N := 7) hx hb hts iw_X0_spread_X4 hown hK hP 3 rfl rfl 6 (by decide) (va_Nw.use rfl (hE.1 (.fieldLinkNest RX0 36 "SpireLean$Town" "year" "I" "SpireLean") (List.mem_of_getElem? (i := 11) rfl))) (fun _ h9 => h9) rfl dX0_spread_39 ?_
    refine lv_iconst (v := 1) hx hb dX0_spread_42 (by decide) ?_
    refine lv_iadd hx hb dX0_spread_43 ?_
    refine va_putN (D := G) (ci := 4) (v := .int (x3.2.2.2.2.2 + (1 : Int32))) (ty := .int) (C := RX4) (T := TX4) (N := 7) hx hb hts iw_X0_spread_X4 tyX4 tyX4_ok nmX4 hown hK hP hD hS 3 rfl rfl 6 (by decide) (va_Nw.use rfl (hE.1 (.fieldLinkNest RX0 36 "SpireLean$Town" "year" "I" "SpireLean") (List.mem_of_getElem? (i := 11) rfl))) (fun _ h9 => h9) rfl (tyX4_ok 6 (by decide)) rfl rfl (Nat.le_of_ble_eq_true rfl) dX0_spread_44 (fun H locs hP hD hS => ?_)
    have hP : va_P G vwCl [(a_d, .inr (0, [.ref a_d_weights, .ref a_d_later, .long x3.2.1])), (a_d_weights, .inl (k 2, 100, .inr (.inl o9.1))), (a_d_later, .inl (k 2, 100, .inr (.inl o9.2.1))), (a_t, .inr (4, [.ref a_t_traits, .int t_draws, .int t_foot, .int o9.2.2, .int t_stiff, .int t_bears, .int (x3.2.2.2.2.2 + (1 : Int32))])), (a_t_traits, .inl (k 0, 20, .inl t_traits))] H := hP
    have hD : va_D A [(a_d, .inr (0, [.ref a_d_weights, .ref a_d_later, .long x3.2.1])), (a_d_weights, .inl (k 2, 100, .inr (.inl o9.1))), (a_d_later, .inl (k 2, 100, .inr (.inl o9.2.1))), (a_t, .inr (4, [.ref a_t_traits, .int t_draws, .int t_foot, .int o9.2.2, .int t_stiff, .int t_bears, .int (x3.2.2.2.2.2 + (1 : Int32))])), (a_t_traits, .inl (k 0, 20, .inl t_traits))] := hD
    refine lv_aload_n hx hb dX0_spread_47 rfl (lv_at hl 0 rfl) ?_
    refine lv_dup hx hb dX0_spread_48 rfl ?_
    refine va_get (D := G) (ci := 0) (v := .long x3.2.1) (C := RX0) (T := TX0) (N := 3) hx hb hts iw_X0_spread_X0 hown hK hP 0 rfl rfl 2 (by decide) (hts (.fieldLink RX0 28 "SpireLean$Odds" "whole" "J") (List.mem_of_getElem? (i := 2) rfl)) (fun _ h9 => h9) rfl dX0_spread_49 ?_
    refine lv_ldc2 hx hb hown (hts (.constantLong RX0 39 (10)) (List.mem_of_getElem? (i := 3) rfl)) dX0_spread_52 ?_
    refine lv_lmul hx hb dX0_spread_55 ?_
    refine va_put (D := G) (ci := 0) (v := .long (x3.2.1 * (10 : Int64))) (ty := .long) (C := RX0) (T := TX0) (N := 3) hx hb hts iw_X0_spread_X0 tyX0 tyX0_ok nmX0 hown hK hP hD hS 0 rfl rfl 2 (by decide) (hts (.fieldLink RX0 28 "SpireLean$Odds" "whole" "J") (List.mem_of_getElem? (i := 2) rfl)) (fun _ h9 => h9) rfl (tyX0_ok 2 (by decide)) rfl rfl (Nat.le_of_ble_eq_true rfl) dX0_spread_56 (fun H locs hP hD hS => ?_)
    have hP : va_P G vwCl [(a_d, .inr (0, [.ref a_d_weights, .ref a_d_later, .long (x3.2.1 * (10 : Int64))])), (a_d_weights, .inl (k 2, 100, .inr (.inl o9.1))), (a_d_later, .inl (k 2, 100, .inr (.inl o9.2.1))), (a_t, .inr (4, [.ref a_t_traits, .int t_draws, .int t_foot, .int o9.2.2, .int t_stiff, .int t_bears, .int (x3.2.2.2.2.2 + (1 : Int32))])), (a_t_traits, .inl (k 0, 20, .inl t_traits))] H := hP
    have hD : va_D A [(a_d, .inr (0, [.ref a_d_weights, .ref a_d_later, .long (x3.2.1 * (10 : Int64))])), (a_d_weights, .inl (k 2, 100, .inr (.inl o9.1))), (a_d_later, .inl (k 2, 100, .inr (.inl o9.2.1))), (a_t, .inr (4, [.ref a_t_traits, .int t_draws, .int t_foot, .int o9.2.2, .int t_stiff, .int t_bears, .int (x3.2.2.2.2.2 + (1 : Int32))])), (a_t_traits, .inl (k 0, 20, .inl t_traits))] := hD
    refine lv_iinc (v := x3.1 + (1 : Int32)) (lv' := [(4, .int (x3.1 + (1 : Int32))), (0, .ref a_d), (1, .ref a_t), (2, .int u2), (3, .int u3)]) hx hb dX0_spread_59 hl (k := 4) rfl rfl (by decide) rfl (fun ls hl => ?_)
    refine lv_goto (tgt := 25) hx hb dX0_spread_62 (by decide) ?_
    exact hC4 _ (zs h) H locs ls hP hD hS (lv_sub hl [1, 2, 3, 4, 0] rfl)
theorem iw_X0_leanTotal_X0 : ∀ w ∈ wsX00, w ∈ wsX0_leanTotal := fun _ h => List.mem_cons_of_mem _ (List.mem_append_right _ h)
set_option maxHeartbeats 4000000 in
set_option maxRecDepth 100000 in
theorem c_X0_leanTotal (l : Launch) (G : va_G) (k : Nat → ClassId) (tL tM : Nat) (sK sV : Nat → Nat) (a_d : Nat) (a_d_weights : Nat) (a_d_later : Nat) (sz : Nat) (d_whole : Int64) (d_weights : Nat → Int64) (u1 : Int32) (out : Int64) (h : p_X0_leanTotal u1 d_weights = some out) : zMl l yX0_leanTotal wsX0_leanTotal 1 23 G k tL tM sK sV [.ref a_d, .int u1] [(a_d, .inr (0, [.ref a_d_weights, .ref a_d_later, .long d_whole])), (a_d_weights, .inl (k 2, 100, .inr (.inl d_weights)))] [(a_d, .inr (0, [.ref a_d_weights, .ref a_d_later, .long d_whole])), (a_d_weights, .inl (k 2, 100, .inr (.inl d_weights)))] out sz := by
  refine z_metl (cc := cX0_leanTotal) (maxL := 5) (by decide) rfl (Nat.le_of_ble_eq_true rfl) ?_
  intro p e s m below meth c A Q H locs ls hx hb hml hts hown hA hK hE hret hP hD hS hl
  have hown : s.vm.findClass RX0 = some m.cls := hown
  have hl : lv_has ls 5 [(0, .ref a_d), (1, .int u1)] := hl
  unfold p_X0_leanTotal at h
  refine lv_lconst (v := 0) hx hb dX0_leanTotal_0 (by decide) ?_
  refine lv_lstore_n (lv' := [(2, .long (0 : Int64)), (0, .ref a_d), (1, .int u1)]) hx hb dX0_leanTotal_1 rfl hl (by decide) rfl (fun ls hl => ?_)
  refine lv_iconst (v := 0) hx hb dX0_leanTotal_2 (by decide) ?_
  refine lv_istore (lv' := [(4, .int (0 : Int32)), (2, .long (0 : Int64)), (0, .ref a_d), (1, .int u1)]) hx hb dX0_leanTotal_3 hl (by decide) rfl (fun ls hl => ?_)
  obtain ⟨e5, hv, h⟩ := zb h
  have hJ4 : ∀ (e5_ : Int64), e5_ = e5 → zW p l e (zR 1 23) s m ([.ref a_d, .int u1] : List Value).toArray below meth c Q 5 A G [(a_d, .inr (0, [.ref a_d_weights, .ref a_d_later, .long d_whole])), (a_d_weights, .inl (k 2, 100, .inr (.inl d_weights)))] [(2, .long e5_)] 36 [] := by
    intro e5_ hz
    subst hz
    intro H locs ls hP hD hS hl
    refine lv_lload_n hx hb dX0_leanTotal_36 rfl (lv_at hl 0 rfl) ?_
    have hr := (zs h)
    subst hr
    exact hret H locs ls 37 hP hS dX0_leanTotal_37
  refine z_lpW (Wh := fun (x1 : Int64 × Int32) => zW p l e (zR 1 23) s m ([.ref a_d, .int u1] : List Value).toArray below meth c Q 5 A G [(a_d, .inr (0, [.ref a_d_weights, .ref a_d_later, .long d_whole])), (a_d_weights, .inl (k 2, 100, .inr (.inl d_weights)))] [(0, .ref a_d), (1, .int u1), (2, .long x1.1), (4, .int x1.2)] 5 []) ?_ 1000 _ hv H locs ls hP hD hS (lv_sub hl [2, 3, 1, 0] rfl)
  clear h
  intro x1 o h hC2 hX3 H locs ls hP hD hS hl
  unfold p_X0_leanTotal_b5 at h
  refine lv_iload hx hb dX0_leanTotal_5 (lv_at hl 3 rfl) ?_
  refine lv_bipush (v := 100) hx hb dX0_leanTotal_7 (by decide) ?_
  refine lv_icmp_ge (tgt := 36) hx hb dX0_leanTotal_9 (by decide) (fun c9 => ?_) (fun c9 => ?_)
  · have h := zit c9 h
    exact hJ4 _ (hX3 _ (zs h)) H locs ls hP hD hS (lv_sub hl [2] rfl)
  · have h := zif c9 h
    refine lv_lload_n hx hb dX0_leanTotal_12 rfl (lv_at hl 2 rfl) ?_
    refine lv_aload_n hx hb dX0_leanTotal_13 rfl (lv_at hl 0 rfl) ?_
    refine va_get (D := G) (ci := 0) (v := .ref a_d_weights) (C := RX0) (T := TX0) (N := 3) hx hb hts iw_X0_leanTotal_X0 hown hK hP 0 rfl rfl 0 (by decide) (hts (.fieldLink RX0 9 "SpireLean$Odds" "weights" "[J") (List.mem_of_getElem? (i := 1) rfl)) (fun _ h9 => h9) rfl dX0_leanTotal_14 ?_
    refine lv_iload hx hb dX0_leanTotal_17 (lv_at hl 3 rfl) ?_
    obtain ⟨v7, hv, h⟩ := zb h
    refine z_lald hx hb hK hP 1 2 rfl rfl hv dX0_leanTotal_19 ?_
    refine lv_iload hx hb dX0_leanTotal_20 (lv_at hl 3 rfl) ?_
    refine lv_iload_n hx hb dX0_leanTotal_22 rfl (lv_at hl 1 rfl) ?_
    obtain ⟨o8, hv, h⟩ := zb h
    refine z_goi (w2 := [(a_d, .inr (0, [.ref a_d_weights, .ref a_d_later, .long d_whole])), (a_d_weights, .inl (k 2, 100, .inr (.inl d_weights)))]) [] (va_runSN (As := [.int x1.2, .int u1]) (rest := [.long v7, .long x1.1]) ⟨hx, hb, hml, hown, hts⟩ (c_X5_far l G k tL tM sK sV H.size x1.2 u1 o8 hv) ⟨va_cnB 2 hts gX0_leanTotal_X5_far_n55 rfl rfl rfl (hE.1 (.methodLinkNest RX0 55 yX5_far "SpireLean") (List.mem_of_getElem? (i := 62) rfl)) (hts (.initialized RX5) (List.mem_of_getElem? (i := 3) rfl)) (by decide +kernel) ⟨Nat.le_of_ble_eq_true rfl, Nat.le_of_ble_eq_true rfl⟩, (hts (.static yX5_far) (List.mem_of_getElem? (i := 2) rfl)), trivial⟩ (z_preS (wc := []) [] hK hE hA hP hD hS (by decide) rfl) rfl rfl hl.1 rfl (lv_room (Nat.le_of_ble_eq_true rfl)) dX0_leanTotal_23 ⟨Nat.le_refl _, Nat.le_refl _⟩) hA hP hD hS rfl rfl rfl rfl (fun H locs hP hD hS => ?_)
    refine lv_i2l (v := o8.toInt64) hx hb dX0_leanTotal_26 rfl ?_
    refine lv_lmul hx hb dX0_leanTotal_27 ?_
    refine lv_ladd hx hb dX0_leanTotal_28 ?_
    refine lv_lstore_n (lv' := [(2, .long (x1.1 + (v7 * o8.toInt64))), (0, .ref a_d), (1, .int u1), (4, .int x1.2)]) hx hb dX0_leanTotal_29 rfl hl (by decide) rfl (fun ls hl => ?_)
    refine lv_iinc (v := x1.2 + (1 : Int32)) (lv' := [(4, .int (x1.2 + (1 : Int32))), (2, .long (x1.1 + (v7 * o8.toInt64))), (0, .ref a_d), (1, .int u1)]) hx hb dX0_leanTotal_30 hl (k := 3) rfl rfl (by decide) rfl (fun ls hl => ?_)
    refine lv_goto (tgt := 5) hx hb dX0_leanTotal_33 (by decide) ?_
    exact hC2 _ (zs h) H locs ls hP hD hS (lv_sub hl [2, 3, 1, 0] rfl)
theorem iw_X1_isNothing_X1 : ∀ w ∈ wsX10, w ∈ wsX1_isNothing := fun _ h => List.mem_cons_of_mem _ (List.mem_append_right _ h)
set_option maxHeartbeats 4000000 in
set_option maxRecDepth 100000 in
theorem c_X1_isNothing (l : Launch) (G : va_G) (k : Nat → ClassId) (tL tM : Nat) (sK sV : Nat → Nat) (a_h : Nat) (a_h_cells : Nat) (sz : Nat) (h_lane : Int32) (h_size : Int32) (out : Int32) (h : p_X1_isNothing h_lane = some out) : zMi l yX1_isNothing wsX1_isNothing 0 0 G k tL tM sK sV [.ref a_h] [(a_h, .inr (1, [.ref a_h_cells, .int h_lane, .int h_size]))] [(a_h, .inr (1, [.ref a_h_cells, .int h_lane, .int h_size]))] out sz := by
  refine z_metz (cc := cX1_isNothing) (maxL := 1) (by decide) rfl (Nat.le_of_ble_eq_true rfl) ?_
  intro p e s m below meth c A Q H locs ls hx hb hml hts hown hA hK hE hret hP hD hS hl
  have hown : s.vm.findClass RX1 = some m.cls := hown
  have hl : lv_has ls 1 [(0, .ref a_h)] := hl
  unfold p_X1_isNothing at h
  refine lv_aload_n hx hb dX1_isNothing_0 rfl (lv_at hl 0 rfl) ?_
  refine va_get (D := G) (ci := 1) (v := .int h_lane) (C := RX1) (T := TX1) (N := 3) hx hb hts iw_X1_isNothing_X1 hown hK hP 0 rfl rfl 1 (by decide) (hts (.fieldLink RX1 15 "SpireLean$Sheet" "lane" "I") (List.mem_of_getElem? (i := 1) rfl)) (fun _ h9 => h9) rfl dX1_isNothing_1 ?_
  refine lv_iconst (v := (-1)) hx hb dX1_isNothing_4 (by decide) ?_
  refine lv_icmp_ne (tgt := 12) hx hb dX1_isNothing_5 (by decide) (fun c1 => ?_) (fun c1 => ?_)
  · have h := zif c1 h
    refine lv_iconst (v := 0) hx hb dX1_isNothing_12 (by decide) ?_
    have hr := (zs h)
    subst hr
    exact hret H locs ls 13 (Or.inl rfl) hP hS dX1_isNothing_13
  · have h := zit c1 h
    refine lv_iconst (v := 1) hx hb dX1_isNothing_8 (by decide) ?_
    refine lv_goto (tgt := 13) hx hb dX1_isNothing_9 (by decide) ?_
    have hr := (zs h)
    subst hr
    exact hret H locs ls 13 (Or.inr rfl) hP hS dX1_isNothing_13
theorem iw_X1_renew_X1 : ∀ w ∈ wsX10, w ∈ wsX1_renew := fun _ h => List.mem_cons_of_mem _ (List.mem_append_right _ h)
set_option maxHeartbeats 4000000 in
set_option maxRecDepth 100000 in
theorem c_X1_renew (l : Launch) (G : va_G) (k : Nat → ClassId) (tL tM : Nat) (sK sV : Nat → Nat) (a_h : Nat) (a_h_cells : Nat) (sz : Nat) (h_lane : Int32) (h_size : Int32) (h_cells : Nat → Int32) (u1 : Int32) (u2 : Int32) (out : Int32 × Int32 × (Nat → Int32)) (h : p_X1_renew u1 u2 h_cells = some out) : zMv l yX1_renew wsX1_renew 0 0 G k tL tM sK sV [.ref a_h, .int u1, .int u2] [(a_h, .inr (1, [.ref a_h_cells, .int h_lane, .int h_size])), (a_h_cells, .inl (k 0, 40, .inl h_cells))] [(a_h, .inr (1, [.ref a_h_cells, .int out.1, .int out.2.1])), (a_h_cells, .inl (k 0, 40, .inl out.2.2))] sz := by
  refine z_metv (cc := cX1_renew) (maxL := 4) (by decide) rfl (Nat.le_of_ble_eq_true rfl) ?_
  intro p e s m below meth c A Q H locs ls hx hb hml hts hown hA hK hE hret hP hD hS hl
  have hown : s.vm.findClass RX1 = some m.cls := hown
  have hl : lv_has ls 4 [(0, .ref a_h), (1, .int u1), (2, .int u2)] := hl
  unfold p_X1_renew at h
  refine lv_aload_n hx hb dX1_renew_0 rfl (lv_at hl 0 rfl) ?_
  refine lv_iload_n hx hb dX1_renew_1 rfl (lv_at hl 1 rfl) ?_
  refine va_put (D := G) (ci := 1) (v := .int u1) (ty := .int) (C := RX1) (T := TX1) (N := 3) hx hb hts iw_X1_renew_X1 tyX1 tyX1_ok nmX1 hown hK hP hD hS 0 rfl rfl 1 (by decide) (hts (.fieldLink RX1 15 "SpireLean$Sheet" "lane" "I") (List.mem_of_getElem? (i := 1) rfl)) (fun _ h9 => h9) rfl (tyX1_ok 1 (by decide)) rfl rfl (Nat.le_of_ble_eq_true rfl) dX1_renew_2 (fun H locs hP hD hS => ?_)
  have hP : va_P G vwCl [(a_h, .inr (1, [.ref a_h_cells, .int u1, .int h_size])), (a_h_cells, .inl (k 0, 40, .inl h_cells))] H := hP
  have hD : va_D A [(a_h, .inr (1, [.ref a_h_cells, .int u1, .int h_size])), (a_h_cells, .inl (k 0, 40, .inl h_cells))] := hD
  refine lv_aload_n hx hb dX1_renew_5 rfl (lv_at hl 0 rfl) ?_
  refine lv_iload_n hx hb dX1_renew_6 rfl (lv_at hl 2 rfl) ?_
  refine va_put (D := G) (ci := 1) (v := .int u2) (ty := .int) (C := RX1) (T := TX1) (N := 3) hx hb hts iw_X1_renew_X1 tyX1 tyX1_ok nmX1 hown hK hP hD hS 0 rfl rfl 2 (by decide) (hts (.fieldLink RX1 19 "SpireLean$Sheet" "size" "I") (List.mem_of_getElem? (i := 2) rfl)) (fun _ h9 => h9) rfl (tyX1_ok 2 (by decide)) rfl rfl (Nat.le_of_ble_eq_true rfl) dX1_renew_7 (fun H locs hP hD hS => ?_)
  have hP : va_P G vwCl [(a_h, .inr (1, [.ref a_h_cells, .int u1, .int u2])), (a_h_cells, .inl (k 0, 40, .inl h_cells))] H := hP
  have hD : va_D A [(a_h, .inr (1, [.ref a_h_cells, .int u1, .int u2])), (a_h_cells, .inl (k 0, 40, .inl h_cells))] := hD
  refine lv_iconst (v := 0) hx hb dX1_renew_10 (by decide) ?_
  refine lv_istore_n (lv' := [(3, .int (0 : Int32)), (0, .ref a_h), (1, .int u1), (2, .int u2)]) hx hb dX1_renew_11 rfl hl (by decide) rfl (fun ls hl => ?_)
  obtain ⟨e5, hv, h⟩ := zb h
  have hJ4 : ∀ (e5_ : (Nat → Int32)), e5_ = e5 → zW p l e (zR 0 0) s m ([.ref a_h, .int u1, .int u2] : List Value).toArray below meth c Q 4 A G [(a_h, .inr (1, [.ref a_h_cells, .int u1, .int u2])), (a_h_cells, .inl (k 0, 40, .inl e5_))] [] 31 [] := by
    intro e5_ hz
    subst hz
    intro H locs ls hP hD hS hl
    have hr := (zs h)
    subst hr
    exact hret H locs ls 31 hP hS dX1_renew_31
  refine z_lpW (Wh := fun (x1 : Int32 × (Nat → Int32)) => zW p l e (zR 0 0) s m ([.ref a_h, .int u1, .int u2] : List Value).toArray below meth c Q 4 A G [(a_h, .inr (1, [.ref a_h_cells, .int u1, .int u2])), (a_h_cells, .inl (k 0, 40, .inl x1.2))] [(0, .ref a_h), (3, .int x1.1)] 12 []) ?_ 1000 _ hv H locs ls hP hD hS (lv_sub hl [1, 0] rfl)
  clear h
  intro x1 o h hC2 hX3 H locs ls hP hD hS hl
  unfold p_X1_renew_b12 at h
  refine lv_iload_n hx hb dX1_renew_12 rfl (lv_at hl 1 rfl) ?_
  refine lv_bipush (v := 40) hx hb dX1_renew_13 (by decide) ?_
  refine lv_icmp_ge (tgt := 31) hx hb dX1_renew_15 (by decide) (fun c8 => ?_) (fun c8 => ?_)
  · have h := zit c8 h
    exact hJ4 _ (hX3 _ (zs h)) H locs ls hP hD hS (lv_sub hl [] rfl)
  · have h := zif c8 h
    refine lv_aload_n hx hb dX1_renew_18 rfl (lv_at hl 0 rfl) ?_
    refine va_get (D := G) (ci := 1) (v := .ref a_h_cells) (C := RX1) (T := TX1) (N := 3) hx hb hts iw_X1_renew_X1 hown hK hP 0 rfl rfl 0 (by decide) (hts (.fieldLink RX1 9 "SpireLean$Sheet" "cells" "[I") (List.mem_of_getElem? (i := 3) rfl)) (fun _ h9 => h9) rfl dX1_renew_19 ?_
    refine lv_iload_n hx hb dX1_renew_22 rfl (lv_at hl 1 rfl) ?_
    refine lv_iconst (v := 0) hx hb dX1_renew_23 (by decide) ?_
    obtain ⟨v7, hv, h⟩ := zb h
    refine z_iast hx hb hK hP hD hS 1 0 rfl rfl hv dX1_renew_24 (fun H locs hP hD hS => ?_)
    have hP : va_P G vwCl [(a_h, .inr (1, [.ref a_h_cells, .int u1, .int u2])), (a_h_cells, .inl (k 0, 40, .inl v7))] H := hP
    have hD : va_D A [(a_h, .inr (1, [.ref a_h_cells, .int u1, .int u2])), (a_h_cells, .inl (k 0, 40, .inl v7))] := hD
    refine lv_iinc (v := x1.1 + (1 : Int32)) (lv' := [(3, .int (x1.1 + (1 : Int32))), (0, .ref a_h)]) hx hb dX1_renew_25 hl (k := 1) rfl rfl (by decide) rfl (fun ls hl => ?_)
    refine lv_goto (tgt := 12) hx hb dX1_renew_28 (by decide) ?_
    exact hC2 _ (zs h) H locs ls hP hD hS (lv_sub hl [1, 0] rfl)
theorem iw_X1_faultOf_X1 : ∀ w ∈ wsX10, w ∈ wsX1_faultOf := fun _ h => List.mem_cons_of_mem _ (List.mem_append_right _ h)
set_option maxHeartbeats 4000000 in
set_option maxRecDepth 100000 in
theorem c_X1_faultOf (l : Launch) (G : va_G) (k : Nat → ClassId) (tL tM : Nat) (sK sV : Nat → Nat) (a_h : Nat) (a_h_cells : Nat) (sz : Nat) (h_lane : Int32) (h_size : Int32) (u1 : Int32) (u2 : Int32) (out : Int32) (h : p_X1_faultOf u1 u2 h_lane h_size = some out) : zMi l yX1_faultOf wsX1_faultOf 1 20 G k tL tM sK sV [.ref a_h, .int u1, .int u2] [(a_h, .inr (1, [.ref a_h_cells, .int h_lane, .int h_size]))] [(a_h, .inr (1, [.ref a_h_cells, .int h_lane, .int h_size]))] out sz := by
  refine z_meti (cc := cX1_faultOf) (maxL := 3) (by decide) rfl (Nat.le_of_ble_eq_true rfl) ?_
  intro p e s m below meth c A Q H locs ls hx hb hml hts hown hA hK hE hret hP hD hS hl
  have hown : s.vm.findClass RX1 = some m.cls := hown
  have hl : lv_has ls 3 [(0, .ref a_h), (1, .int u1), (2, .int u2)] := hl
  unfold p_X1_faultOf at h
  refine lv_aload_n hx hb dX1_faultOf_0 rfl (lv_at hl 0 rfl) ?_
  obtain ⟨o1, hv, h⟩ := zb h
  refine z_goi (w2 := [(a_h, .inr (1, [.ref a_h_cells, .int h_lane, .int h_size]))]) [0] (va_runV (As := []) (rest := []) ⟨hx, hb, hml, hown, hts⟩ (c_X1_isNothing l G k tL tM sK sV a_h a_h_cells H.size h_lane h_size o1 hv) (cwV 0 hts gX1_faultOf_X1_isNothing rfl rfl rfl (by decide +kernel) ⟨Nat.le_of_ble_eq_true rfl, Nat.le_of_ble_eq_true rfl⟩) (z_preV (wc := [(a_h, .inr (1, [.ref a_h_cells, .int h_lane, .int h_size]))]) [0] 0 1 hK hE hA hP hD hS (by decide) rfl rfl rfl) rfl rfl hl.1 rfl (lv_room (Nat.le_of_ble_eq_true rfl)) dX1_faultOf_1 ⟨Nat.le_refl _, Nat.le_refl _⟩) hA hP hD hS rfl rfl rfl rfl (fun H locs hP hD hS => ?_)
  refine lv_if_eq (tgt := 9) hx hb dX1_faultOf_4 (by decide) (fun c5 => ?_) (fun c5 => ?_)
  · have h := zit c5 h
    refine lv_aload_n hx hb dX1_faultOf_9 rfl (lv_at hl 0 rfl) ?_
    refine va_get (D := G) (ci := 1) (v := .int h_lane) (C := RX1) (T := TX1) (N := 3) hx hb hts iw_X1_faultOf_X1 hown hK hP 0 rfl rfl 1 (by decide) (hts (.fieldLink RX1 15 "SpireLean$Sheet" "lane" "I") (List.mem_of_getElem? (i := 1) rfl)) (fun _ h9 => h9) rfl dX1_faultOf_10 ?_
    refine lv_iload_n hx hb dX1_faultOf_13 rfl (lv_at hl 1 rfl) ?_
    refine lv_icmp_eq (tgt := 19) hx hb dX1_faultOf_14 (by decide) (fun c4 => ?_) (fun c4 => ?_)
    · have h := zit c4 h
      refine lv_iload_n hx hb dX1_faultOf_19 rfl (lv_at hl 2 rfl) ?_
      refine lv_if_lt (tgt := 31) hx hb dX1_faultOf_20 (by decide) (fun c3 => ?_) (fun c3 => ?_)
      · have h := zit c3 h
        refine lv_iconst (v := 2) hx hb dX1_faultOf_31 (by decide) ?_
        refine lv_goto (tgt := 36) hx hb dX1_faultOf_32 (by decide) ?_
        have hr := (zs h)
        subst hr
        exact hret H locs ls 36 hP hS dX1_faultOf_36
      · have h := zif c3 h
        refine lv_iload_n hx hb dX1_faultOf_23 rfl (lv_at hl 2 rfl) ?_
        refine lv_aload_n hx hb dX1_faultOf_24 rfl (lv_at hl 0 rfl) ?_
        refine va_get (D := G) (ci := 1) (v := .int h_size) (C := RX1) (T := TX1) (N := 3) hx hb hts iw_X1_faultOf_X1 hown hK hP 0 rfl rfl 2 (by decide) (hts (.fieldLink RX1 19 "SpireLean$Sheet" "size" "I") (List.mem_of_getElem? (i := 2) rfl)) (fun _ h9 => h9) rfl dX1_faultOf_25 ?_
        refine lv_icmp_lt (tgt := 35) hx hb dX1_faultOf_28 (by decide) (fun c2 => ?_) (fun c2 => ?_)
        · have h := zit c2 h
          refine lv_iconst (v := 0) hx hb dX1_faultOf_35 (by decide) ?_
          have hr := (zs h)
          subst hr
          exact hret H locs ls 36 hP hS dX1_faultOf_36
        · have h := zif c2 h
          refine lv_iconst (v := 2) hx hb dX1_faultOf_31 (by decide) ?_
          refine lv_goto (tgt := 36) hx hb dX1_faultOf_32 (by decide) ?_
          have hr := (zs h)
          subst hr
          exact hret H locs ls 36 hP hS dX1_faultOf_36
    · have h := zif c4 h
      refine lv_iconst (v := 3) hx hb dX1_faultOf_17 (by decide) ?_
      have hr := (zs h)
      subst hr
      exact hret H locs ls 18 hP hS dX1_faultOf_18
  · have h := zif c5 h
    refine lv_iconst (v := 1) hx hb dX1_faultOf_7 (by decide) ?_
    have hr := (zs h)
    subst hr
    exact hret H locs ls 8 hP hS dX1_faultOf_8
set_option maxHeartbeats 4000000 in
set_option maxRecDepth 100000 in
theorem c_X1_faultOfPair (l : Launch) (G : va_G) (k : Nat → ClassId) (tL tM : Nat) (sK sV : Nat → Nat) (a_h : Nat) (a_h_cells : Nat) (sz : Nat) (h_lane : Int32) (h_size : Int32) (u1 : Int32) (u2 : Int32) (out : Int32) (h : p_X1_faultOfPair u1 u2 h_lane h_size = some out) : zMi l yX1_faultOfPair wsX1_faultOfPair 2 42 G k tL tM sK sV [.ref a_h, .int u1, .int u2] [(a_h, .inr (1, [.ref a_h_cells, .int h_lane, .int h_size]))] [(a_h, .inr (1, [.ref a_h_cells, .int h_lane, .int h_size]))] out sz := by
  refine z_meti (cc := cX1_faultOfPair) (maxL := 4) (by decide) rfl (Nat.le_of_ble_eq_true rfl) ?_
  intro p e s m below meth c A Q H locs ls hx hb hml hts hown hA hK hE hret hP hD hS hl
  have hown : s.vm.findClass RX1 = some m.cls := hown
  have hl : lv_has ls 4 [(0, .ref a_h), (1, .int u1), (2, .int u2)] := hl
  unfold p_X1_faultOfPair at h
  refine lv_aload_n hx hb dX1_faultOfPair_0 rfl (lv_at hl 0 rfl) ?_
  refine lv_iload_n hx hb dX1_faultOfPair_1 rfl (lv_at hl 1 rfl) ?_
  refine lv_iload_n hx hb dX1_faultOfPair_2 rfl (lv_at hl 2 rfl) ?_
  obtain ⟨o1, hv, h⟩ := zb h
  refine z_goi (w2 := [(a_h, .inr (1, [.ref a_h_cells, .int h_lane, .int h_size]))]) [0] (va_runV (As := [.int u1, .int u2]) (rest := []) ⟨hx, hb, hml, hown, hts⟩ (c_X1_faultOf l G k tL tM sK sV a_h a_h_cells H.size h_lane h_size u1 u2 o1 hv) (cwV 2 hts gX1_faultOfPair_X1_faultOf rfl rfl rfl (by decide +kernel) ⟨Nat.le_of_ble_eq_true rfl, Nat.le_of_ble_eq_true rfl⟩) (z_preV (wc := [(a_h, .inr (1, [.ref a_h_cells, .int h_lane, .int h_size]))]) [0] 0 1 hK hE hA hP hD hS (by decide) rfl rfl rfl) rfl rfl hl.1 rfl (lv_room (Nat.le_of_ble_eq_true rfl)) dX1_faultOfPair_3 ⟨Nat.le_refl _, Nat.le_refl _⟩) hA hP hD hS rfl rfl rfl rfl (fun H locs hP hD hS => ?_)
  refine lv_istore_n (lv' := [(3, .int o1), (0, .ref a_h), (1, .int u1), (2, .int u2)]) hx hb dX1_faultOfPair_6 rfl hl (by decide) rfl (fun ls hl => ?_)
  refine lv_iload_n hx hb dX1_faultOfPair_7 rfl (lv_at hl 0 rfl) ?_
  refine lv_if_eq (tgt := 15) hx hb dX1_faultOfPair_8 (by decide) (fun c3 => ?_) (fun c3 => ?_)
  · have h := zit c3 h
    refine lv_aload_n hx hb dX1_faultOfPair_15 rfl (lv_at hl 1 rfl) ?_
    refine lv_iload_n hx hb dX1_faultOfPair_16 rfl (lv_at hl 2 rfl) ?_
    refine lv_iload_n hx hb dX1_faultOfPair_17 rfl (lv_at hl 3 rfl) ?_
    refine lv_iconst (v := 1) hx hb dX1_faultOfPair_18 (by decide) ?_
    refine lv_iadd hx hb dX1_faultOfPair_19 ?_
    obtain ⟨o2, hv, h⟩ := zb h
    refine z_goi (w2 := [(a_h, .inr (1, [.ref a_h_cells, .int h_lane, .int h_size]))]) [0] (va_runV (As := [.int u1, .int (u2 + (1 : Int32))]) (rest := []) ⟨hx, hb, hml, hown, hts⟩ (c_X1_faultOf l G k tL tM sK sV a_h a_h_cells H.size h_lane h_size u1 (u2 + (1 : Int32)) o2 hv) (cwV 2 hts gX1_faultOfPair_X1_faultOf rfl rfl rfl (by decide +kernel) ⟨Nat.le_of_ble_eq_true rfl, Nat.le_of_ble_eq_true rfl⟩) (z_preV (wc := [(a_h, .inr (1, [.ref a_h_cells, .int h_lane, .int h_size]))]) [0] 0 1 hK hE hA hP hD hS (by decide) rfl rfl rfl) rfl rfl hl.1 rfl (lv_room (Nat.le_of_ble_eq_true rfl)) dX1_faultOfPair_20 ⟨Nat.le_refl _, Nat.le_refl _⟩) hA hP hD hS rfl rfl rfl rfl (fun H locs hP hD hS => ?_)
    have hr := (zs h)
    subst hr
    exact hret H locs ls 23 hP hS dX1_faultOfPair_23
  · have h := zif c3 h
    refine lv_iload_n hx hb dX1_faultOfPair_11 rfl (lv_at hl 0 rfl) ?_
    refine lv_goto (tgt := 23) hx hb dX1_faultOfPair_12 (by decide) ?_
    have hr := (zs h)
    subst hr
    exact hret H locs ls 23 hP hS dX1_faultOfPair_23
theorem iw_X1_write_X1 : ∀ w ∈ wsX10, w ∈ wsX1_write := fun _ h => List.mem_cons_of_mem _ (List.mem_append_right _ h)
set_option maxHeartbeats 4000000 in
set_option maxRecDepth 100000 in
theorem c_X1_write (l : Launch) (G : va_G) (k : Nat → ClassId) (tL tM : Nat) (sK sV : Nat → Nat) (a_h : Nat) (a_h_cells : Nat) (sz : Nat) (h_lane : Int32) (h_size : Int32) (h_cells : Nat → Int32) (u1 : Int32) (u2 : Int32) (out : (Nat → Int32)) (h : p_X1_write u1 u2 h_lane h_cells = some out) : zMv l yX1_write wsX1_write 0 0 G k tL tM sK sV [.ref a_h, .int u1, .int u2] [(a_h, .inr (1, [.ref a_h_cells, .int h_lane, .int h_size])), (a_h_cells, .inl (k 0, 40, .inl h_cells))] [(a_h, .inr (1, [.ref a_h_cells, .int h_lane, .int h_size])), (a_h_cells, .inl (k 0, 40, .inl out))] sz := by
  refine z_metv (cc := cX1_write) (maxL := 3) (by decide) rfl (Nat.le_of_ble_eq_true rfl) ?_
  intro p e s m below meth c A Q H locs ls hx hb hml hts hown hA hK hE hret hP hD hS hl
  have hown : s.vm.findClass RX1 = some m.cls := hown
  have hl : lv_has ls 3 [(0, .ref a_h), (1, .int u1), (2, .int u2)] := hl
  unfold p_X1_write at h
  refine lv_aload_n hx hb dX1_write_0 rfl (lv_at hl 0 rfl) ?_
  refine va_get (D := G) (ci := 1) (v := .int h_lane) (C := RX1) (T := TX1) (N := 3) hx hb hts iw_X1_write_X1 hown hK hP 0 rfl rfl 1 (by decide) (hts (.fieldLink RX1 15 "SpireLean$Sheet" "lane" "I") (List.mem_of_getElem? (i := 1) rfl)) (fun _ h9 => h9) rfl dX1_write_1 ?_
  refine lv_if_ne (tgt := 18) hx hb dX1_write_4 (by decide) (fun c5 => ?_) (fun c5 => ?_)
  · have h := zif c5 h
    refine lv_aload_n hx hb dX1_write_18 rfl (lv_at hl 0 rfl) ?_
    refine va_get (D := G) (ci := 1) (v := .int h_lane) (C := RX1) (T := TX1) (N := 3) hx hb hts iw_X1_write_X1 hown hK hP 0 rfl rfl 1 (by decide) (hts (.fieldLink RX1 15 "SpireLean$Sheet" "lane" "I") (List.mem_of_getElem? (i := 1) rfl)) (fun _ h9 => h9) rfl dX1_write_19 ?_
    refine lv_iconst (v := 1) hx hb dX1_write_22 (by decide) ?_
    refine lv_icmp_ne (tgt := 37) hx hb dX1_write_23 (by decide) (fun c3 => ?_) (fun c3 => ?_)
    · have h := zif c3 h
      refine lv_aload_n hx hb dX1_write_37 rfl (lv_at hl 0 rfl) ?_
      refine va_get (D := G) (ci := 1) (v := .ref a_h_cells) (C := RX1) (T := TX1) (N := 3) hx hb hts iw_X1_write_X1 hown hK hP 0 rfl rfl 0 (by decide) (hts (.fieldLink RX1 9 "SpireLean$Sheet" "cells" "[I") (List.mem_of_getElem? (i := 2) rfl)) (fun _ h9 => h9) rfl dX1_write_38 ?_
      refine lv_iload_n hx hb dX1_write_41 rfl (lv_at hl 1 rfl) ?_
      refine lv_iload_n hx hb dX1_write_42 rfl (lv_at hl 2 rfl) ?_
      obtain ⟨v1, hv, h⟩ := zb h
      refine z_iast hx hb hK hP hD hS 1 0 rfl rfl hv dX1_write_43 (fun H locs hP hD hS => ?_)
      have hP : va_P G vwCl [(a_h, .inr (1, [.ref a_h_cells, .int h_lane, .int h_size])), (a_h_cells, .inl (k 0, 40, .inl v1))] H := hP
      have hD : va_D A [(a_h, .inr (1, [.ref a_h_cells, .int h_lane, .int h_size])), (a_h_cells, .inl (k 0, 40, .inl v1))] := hD
      have hr := (zs h)
      subst hr
      exact hret H locs ls 44 hP hS dX1_write_44
    · have h := zit c3 h
      refine lv_aload_n hx hb dX1_write_26 rfl (lv_at hl 0 rfl) ?_
      refine va_get (D := G) (ci := 1) (v := .ref a_h_cells) (C := RX1) (T := TX1) (N := 3) hx hb hts iw_X1_write_X1 hown hK hP 0 rfl rfl 0 (by decide) (hts (.fieldLink RX1 9 "SpireLean$Sheet" "cells" "[I") (List.mem_of_getElem? (i := 2) rfl)) (fun _ h9 => h9) rfl dX1_write_27 ?_
      refine lv_iload_n hx hb dX1_write_30 rfl (lv_at hl 1 rfl) ?_
      refine lv_iload_n hx hb dX1_write_31 rfl (lv_at hl 2 rfl) ?_
      refine lv_i2s (v := u2.toInt16.toInt32) hx hb dX1_write_32 rfl ?_
      obtain ⟨v2, hv, h⟩ := zb h
      refine z_iast hx hb hK hP hD hS 1 0 rfl rfl hv dX1_write_33 (fun H locs hP hD hS => ?_)
      have hP : va_P G vwCl [(a_h, .inr (1, [.ref a_h_cells, .int h_lane, .int h_size])), (a_h_cells, .inl (k 0, 40, .inl v2))] H := hP
      have hD : va_D A [(a_h, .inr (1, [.ref a_h_cells, .int h_lane, .int h_size])), (a_h_cells, .inl (k 0, 40, .inl v2))] := hD
      refine lv_goto (tgt := 44) hx hb dX1_write_34 (by decide) ?_
      have hr := (zs h)
      subst hr
      exact hret H locs ls 44 hP hS dX1_write_44
  · have h := zit c5 h
    refine lv_aload_n hx hb dX1_write_7 rfl (lv_at hl 0 rfl) ?_
    refine va_get (D := G) (ci := 1) (v := .ref a_h_cells) (C := RX1) (T := TX1) (N := 3) hx hb hts iw_X1_write_X1 hown hK hP 0 rfl rfl 0 (by decide) (hts (.fieldLink RX1 9 "SpireLean$Sheet" "cells" "[I") (List.mem_of_getElem? (i := 2) rfl)) (fun _ h9 => h9) rfl dX1_write_8 ?_
    refine lv_iload_n hx hb dX1_write_11 rfl (lv_at hl 1 rfl) ?_
    refine lv_iload_n hx hb dX1_write_12 rfl (lv_at hl 2 rfl) ?_
    refine lv_i2b (v := u2.toInt8.toInt32) hx hb dX1_write_13 rfl ?_
    obtain ⟨v4, hv, h⟩ := zb h
    refine z_iast hx hb hK hP hD hS 1 0 rfl rfl hv dX1_write_14 (fun H locs hP hD hS => ?_)
    have hP : va_P G vwCl [(a_h, .inr (1, [.ref a_h_cells, .int h_lane, .int h_size])), (a_h_cells, .inl (k 0, 40, .inl v4))] H := hP
    have hD : va_D A [(a_h, .inr (1, [.ref a_h_cells, .int h_lane, .int h_size])), (a_h_cells, .inl (k 0, 40, .inl v4))] := hD
    refine lv_goto (tgt := 44) hx hb dX1_write_15 (by decide) ?_
    have hr := (zs h)
    subst hr
    exact hret H locs ls 44 hP hS dX1_write_44
theorem iw_X2_add_X2 : ∀ w ∈ wsX20, w ∈ wsX2_add := fun _ h => List.mem_cons_of_mem _ (List.mem_append_right _ h)
set_option maxHeartbeats 4000000 in
set_option maxRecDepth 100000 in
theorem c_X2_add (l : Launch) (G : va_G) (k : Nat → ClassId) (tL tM : Nat) (sK sV : Nat → Nat) (a_n : Nat) (a_n_years : Nat) (a_n_cells : Nat) (sz : Nat) (n_size : Int32) (n_years : Nat → Int32) (n_cells : Nat → Int32) (u1 : Int32) (u2 : Int32) (out : Int32 × Int32 × (Nat → Int32) × (Nat → Int32)) (h : p_X2_add u1 u2 n_size n_years n_cells = some out) : zMi l yX2_add wsX2_add 0 0 G k tL tM sK sV [.ref a_n, .int u1, .int u2] [(a_n, .inr (2, [.ref a_n_years, .ref a_n_cells, .int n_size])), (a_n_years, .inl (k 0, 6, .inl n_years)), (a_n_cells, .inl (k 0, 6, .inl n_cells))] [(a_n, .inr (2, [.ref a_n_years, .ref a_n_cells, .int out.2.1])), (a_n_years, .inl (k 0, 6, .inl out.2.2.1)), (a_n_cells, .inl (k 0, 6, .inl out.2.2.2))] out.1 sz := by
  refine z_meti (cc := cX2_add) (maxL := 3) (by decide) rfl (Nat.le_of_ble_eq_true rfl) ?_
  intro p e s m below meth c A Q H locs ls hx hb hml hts hown hA hK hE hret hP hD hS hl
  have hown : s.vm.findClass RX2 = some m.cls := hown
  have hl : lv_has ls 3 [(0, .ref a_n), (1, .int u1), (2, .int u2)] := hl
  unfold p_X2_add at h
  refine lv_aload_n hx hb dX2_add_0 rfl (lv_at hl 0 rfl) ?_
  refine va_get (D := G) (ci := 2) (v := .int n_size) (C := RX2) (T := TX2) (N := 3) hx hb hts iw_X2_add_X2 hown hK hP 0 rfl rfl 2 (by decide) (hts (.fieldLink RX2 18 "SpireLean$Sightings" "size" "I") (List.mem_of_getElem? (i := 1) rfl)) (fun _ h9 => h9) rfl dX2_add_1 ?_
  refine lv_bipush (v := 6) hx hb dX2_add_4 (by decide) ?_
  refine lv_icmp_lt (tgt := 12) hx hb dX2_add_6 (by decide) (fun c3 => ?_) (fun c3 => ?_)
  · have h := zit c3 h
    refine lv_aload_n hx hb dX2_add_12 rfl (lv_at hl 0 rfl) ?_
    refine va_get (D := G) (ci := 2) (v := .ref a_n_years) (C := RX2) (T := TX2) (N := 3) hx hb hts iw_X2_add_X2 hown hK hP 0 rfl rfl 0 (by decide) (hts (.fieldLink RX2 9 "SpireLean$Sightings" "years" "[I") (List.mem_of_getElem? (i := 2) rfl)) (fun _ h9 => h9) rfl dX2_add_13 ?_
    refine lv_aload_n hx hb dX2_add_16 rfl (lv_at hl 0 rfl) ?_
    refine va_get (D := G) (ci := 2) (v := .int n_size) (C := RX2) (T := TX2) (N := 3) hx hb hts iw_X2_add_X2 hown hK hP 0 rfl rfl 2 (by decide) (hts (.fieldLink RX2 18 "SpireLean$Sightings" "size" "I") (List.mem_of_getElem? (i := 1) rfl)) (fun _ h9 => h9) rfl dX2_add_17 ?_
    refine lv_iload_n hx hb dX2_add_20 rfl (lv_at hl 1 rfl) ?_
    obtain ⟨v1, hv, h⟩ := zb h
    refine z_iast hx hb hK hP hD hS 1 0 rfl rfl hv dX2_add_21 (fun H locs hP hD hS => ?_)
    have hP : va_P G vwCl [(a_n, .inr (2, [.ref a_n_years, .ref a_n_cells, .int n_size])), (a_n_years, .inl (k 0, 6, .inl v1)), (a_n_cells, .inl (k 0, 6, .inl n_cells))] H := hP
    have hD : va_D A [(a_n, .inr (2, [.ref a_n_years, .ref a_n_cells, .int n_size])), (a_n_years, .inl (k 0, 6, .inl v1)), (a_n_cells, .inl (k 0, 6, .inl n_cells))] := hD
    refine lv_aload_n hx hb dX2_add_22 rfl (lv_at hl 0 rfl) ?_
    refine va_get (D := G) (ci := 2) (v := .ref a_n_cells) (C := RX2) (T := TX2) (N := 3) hx hb hts iw_X2_add_X2 hown hK hP 0 rfl rfl 1 (by decide) (hts (.fieldLink RX2 15 "SpireLean$Sightings" "cells" "[I") (List.mem_of_getElem? (i := 3) rfl)) (fun _ h9 => h9) rfl dX2_add_23 ?_
    refine lv_aload_n hx hb dX2_add_26 rfl (lv_at hl 0 rfl) ?_
    refine va_get (D := G) (ci := 2) (v := .int n_size) (C := RX2) (T := TX2) (N := 3) hx hb hts iw_X2_add_X2 hown hK hP 0 rfl rfl 2 (by decide) (hts (.fieldLink RX2 18 "SpireLean$Sightings" "size" "I") (List.mem_of_getElem? (i := 1) rfl)) (fun _ h9 => h9) rfl dX2_add_27 ?_
    refine lv_iload_n hx hb dX2_add_30 rfl (lv_at hl 2 rfl) ?_
    obtain ⟨v2, hv, h⟩ := zb h
    refine z_iast hx hb hK hP hD hS 2 0 rfl rfl hv dX2_add_31 (fun H locs hP hD hS => ?_)
    have hP : va_P G vwCl [(a_n, .inr (2, [.ref a_n_years, .ref a_n_cells, .int n_size])), (a_n_years, .inl (k 0, 6, .inl v1)), (a_n_cells, .inl (k 0, 6, .inl v2))] H := hP
    have hD : va_D A [(a_n, .inr (2, [.ref a_n_years, .ref a_n_cells, .int n_size])), (a_n_years, .inl (k 0, 6, .inl v1)), (a_n_cells, .inl (k 0, 6, .inl v2))] := hD
    refine lv_aload_n hx hb dX2_add_32 rfl (lv_at hl 0 rfl) ?_
    refine lv_dup hx hb dX2_add_33 rfl ?_
    refine va_get (D := G) (ci := 2) (v := .int n_size) (C := RX2) (T := TX2) (N := 3) hx hb hts iw_X2_add_X2 hown hK hP 0 rfl rfl 2 (by decide) (hts (.fieldLink RX2 18 "SpireLean$Sightings" "size" "I") (List.mem_of_getElem? (i := 1) rfl)) (fun _ h9 => h9) rfl dX2_add_34 ?_
    refine lv_iconst (v := 1) hx hb dX2_add_37 (by decide) ?_
    refine lv_iadd hx hb dX2_add_38 ?_
    refine va_put (D := G) (ci := 2) (v := .int (n_size + (1 : Int32))) (ty := .int) (C := RX2) (T := TX2) (N := 3) hx hb hts iw_X2_add_X2 tyX2 tyX2_ok nmX2 hown hK hP hD hS 0 rfl rfl 2 (by decide) (hts (.fieldLink RX2 18 "SpireLean$Sightings" "size" "I") (List.mem_of_getElem? (i := 1) rfl)) (fun _ h9 => h9) rfl (tyX2_ok 2 (by decide)) rfl rfl (Nat.le_of_ble_eq_true rfl) dX2_add_39 (fun H locs hP hD hS => ?_)
    have hP : va_P G vwCl [(a_n, .inr (2, [.ref a_n_years, .ref a_n_cells, .int (n_size + (1 : Int32))])), (a_n_years, .inl (k 0, 6, .inl v1)), (a_n_cells, .inl (k 0, 6, .inl v2))] H := hP
    have hD : va_D A [(a_n, .inr (2, [.ref a_n_years, .ref a_n_cells, .int (n_size + (1 : Int32))])), (a_n_years, .inl (k 0, 6, .inl v1)), (a_n_cells, .inl (k 0, 6, .inl v2))] := hD
    refine lv_aload_n hx hb dX2_add_42 rfl (lv_at hl 0 rfl) ?_
    refine va_get (D := G) (ci := 2) (v := .int (n_size + (1 : Int32))) (C := RX2) (T := TX2) (N := 3) hx hb hts iw_X2_add_X2 hown hK hP 0 rfl rfl 2 (by decide) (hts (.fieldLink RX2 18 "SpireLean$Sightings" "size" "I") (List.mem_of_getElem? (i := 1) rfl)) (fun _ h9 => h9) rfl dX2_add_43 ?_
    have hr := (zs h)
    subst hr
    exact hret H locs ls 46 hP hS dX2_add_46
  · have h := zif c3 h
    refine lv_bipush (v := (-3)) hx hb dX2_add_9 (by decide) ?_
    have hr := (zs h)
    subst hr
    exact hret H locs ls 11 hP hS dX2_add_11
theorem iw_X2_latestYear_X2 : ∀ w ∈ wsX20, w ∈ wsX2_latestYear := fun _ h => List.mem_cons_of_mem _ (List.mem_append_right _ h)
set_option maxHeartbeats 4000000 in
set_option maxRecDepth 100000 in
theorem c_X2_latestYear (l : Launch) (G : va_G) (k : Nat → ClassId) (tL tM : Nat) (sK sV : Nat → Nat) (a_n : Nat) (a_n_years : Nat) (a_n_cells : Nat) (sz : Nat) (n_size : Int32) (n_years : Nat → Int32) (out : Int32) (h : p_X2_latestYear n_size n_years = some out) : zMi l yX2_latestYear wsX2_latestYear 1 30 G k tL tM sK sV [.ref a_n] [(a_n, .inr (2, [.ref a_n_years, .ref a_n_cells, .int n_size])), (a_n_years, .inl (k 0, 6, .inl n_years))] [(a_n, .inr (2, [.ref a_n_years, .ref a_n_cells, .int n_size])), (a_n_years, .inl (k 0, 6, .inl n_years))] out sz := by
  refine z_meti (cc := cX2_latestYear) (maxL := 3) (by decide) rfl (Nat.le_of_ble_eq_true rfl) ?_
  intro p e s m below meth c A Q H locs ls hx hb hml hts hown hA hK hE hret hP hD hS hl
  have hown : s.vm.findClass RX2 = some m.cls := hown
  have hl : lv_has ls 3 [(0, .ref a_n)] := hl
  unfold p_X2_latestYear at h
  refine lv_iconst (v := 0) hx hb dX2_latestYear_0 (by decide) ?_
  refine lv_istore_n (lv' := [(1, .int (0 : Int32)), (0, .ref a_n)]) hx hb dX2_latestYear_1 rfl hl (by decide) rfl (fun ls hl => ?_)
  refine lv_iconst (v := 0) hx hb dX2_latestYear_2 (by decide) ?_
  refine lv_istore_n (lv' := [(2, .int (0 : Int32)), (1, .int (0 : Int32)), (0, .ref a_n)]) hx hb dX2_latestYear_3 rfl hl (by decide) rfl (fun ls hl => ?_)
  obtain ⟨e5, hv, h⟩ := zb h
  have hJ4 : ∀ (e5_ : Int32), e5_ = e5 → zW p l e (zR 1 30) s m ([.ref a_n] : List Value).toArray below meth c Q 3 A G [(a_n, .inr (2, [.ref a_n_years, .ref a_n_cells, .int n_size])), (a_n_years, .inl (k 0, 6, .inl n_years))] [(1, .int e5_)] 29 [] := by
    intro e5_ hz
    subst hz
    intro H locs ls hP hD hS hl
    refine lv_iload_n hx hb dX2_latestYear_29 rfl (lv_at hl 0 rfl) ?_
    have hr := (zs h)
    subst hr
    exact hret H locs ls 30 hP hS dX2_latestYear_30
  refine z_lpW (Wh := fun (x1 : Int32 × Int32) => zW p l e (zR 1 30) s m ([.ref a_n] : List Value).toArray below meth c Q 3 A G [(a_n, .inr (2, [.ref a_n_years, .ref a_n_cells, .int n_size])), (a_n_years, .inl (k 0, 6, .inl n_years))] [(0, .ref a_n), (1, .int x1.1), (2, .int x1.2)] 4 []) ?_ 1000 _ hv H locs ls hP hD hS (lv_sub hl [2, 1, 0] rfl)
  clear h
  intro x1 o h hC2 hX3 H locs ls hP hD hS hl
  unfold p_X2_latestYear_b4 at h
  refine lv_iload_n hx hb dX2_latestYear_4 rfl (lv_at hl 2 rfl) ?_
  refine lv_aload_n hx hb dX2_latestYear_5 rfl (lv_at hl 0 rfl) ?_
  refine va_get (D := G) (ci := 2) (v := .int n_size) (C := RX2) (T := TX2) (N := 3) hx hb hts iw_X2_latestYear_X2 hown hK hP 0 rfl rfl 2 (by decide) (hts (.fieldLink RX2 18 "SpireLean$Sightings" "size" "I") (List.mem_of_getElem? (i := 1) rfl)) (fun _ h9 => h9) rfl dX2_latestYear_6 ?_
  refine lv_icmp_ge (tgt := 29) hx hb dX2_latestYear_9 (by decide) (fun c8 => ?_) (fun c8 => ?_)
  · have h := zit c8 h
    exact hJ4 _ (hX3 _ (zs h)) H locs ls hP hD hS (lv_sub hl [1] rfl)
  · have h := zif c8 h
    refine lv_iload_n hx hb dX2_latestYear_12 rfl (lv_at hl 1 rfl) ?_
    refine lv_aload_n hx hb dX2_latestYear_13 rfl (lv_at hl 0 rfl) ?_
    refine va_get (D := G) (ci := 2) (v := .ref a_n_years) (C := RX2) (T := TX2) (N := 3) hx hb hts iw_X2_latestYear_X2 hown hK hP 0 rfl rfl 0 (by decide) (hts (.fieldLink RX2 9 "SpireLean$Sightings" "years" "[I") (List.mem_of_getElem? (i := 2) rfl)) (fun _ h9 => h9) rfl dX2_latestYear_14 ?_
    refine lv_iload_n hx hb dX2_latestYear_17 rfl (lv_at hl 2 rfl) ?_
    obtain ⟨v7, hv, h⟩ := zb h
    refine z_iald hx hb hK hP 1 0 rfl rfl hv dX2_latestYear_18 ?_
    refine va_mmax hx hb (hml.trans hl.1.symm) hown (hts (.methodLink RX2 38 Lib.Math.max.name) (List.mem_of_getElem? (i := 3) rfl)) (hts (.static Lib.Math.max.name) (List.mem_of_getElem? (i := 4) rfl)) (hts (.initialized "java/lang/Math") (List.mem_of_getElem? (i := 5) rfl)) (hts (.code Lib.Math.max.name Lib.Math.max.code 2 (some .int)) (List.mem_of_getElem? (i := 6) rfl)) (Nat.le_of_ble_eq_true rfl) (Nat.le_of_ble_eq_true rfl) (Nat.le_refl _) (Nat.le_refl _) dX2_latestYear_19 ?_
    refine lv_istore_n (lv' := [(1, .int (if x1.1 < v7 then v7 else x1.1)), (0, .ref a_n), (2, .int x1.2)]) hx hb dX2_latestYear_22 rfl hl (by decide) rfl (fun ls hl => ?_)
    refine lv_iinc (v := x1.2 + (1 : Int32)) (lv' := [(2, .int (x1.2 + (1 : Int32))), (1, .int (if x1.1 < v7 then v7 else x1.1)), (0, .ref a_n)]) hx hb dX2_latestYear_23 hl (k := 2) rfl rfl (by decide) rfl (fun ls hl => ?_)
    refine lv_goto (tgt := 4) hx hb dX2_latestYear_26 (by decide) ?_
    exact hC2 _ (zs h) H locs ls hP hD hS (lv_sub hl [2, 1, 0] rfl)
theorem iw_X2_fitsAt_X2 : ∀ w ∈ wsX20, w ∈ wsX2_fitsAt := fun _ h => List.mem_cons_of_mem _ (List.mem_append_right _ h)
set_option maxHeartbeats 4000000 in
set_option maxRecDepth 100000 in
theorem c_X2_fitsAt (l : Launch) (G : va_G) (k : Nat → ClassId) (tL tM : Nat) (sK sV : Nat → Nat) (a_n : Nat) (a_n_years : Nat) (a_n_cells : Nat) (sz : Nat) (n_size : Int32) (n_years : Nat → Int32) (n_cells : Nat → Int32) (u1 : Int32) (u2 : Int32) (out : Int32) (h : p_X2_fitsAt u1 u2 n_size n_years n_cells = some out) : zMi l yX2_fitsAt wsX2_fitsAt 0 0 G k tL tM sK sV [.ref a_n, .int u1, .int u2] [(a_n, .inr (2, [.ref a_n_years, .ref a_n_cells, .int n_size])), (a_n_years, .inl (k 0, 6, .inl n_years)), (a_n_cells, .inl (k 0, 6, .inl n_cells))] [(a_n, .inr (2, [.ref a_n_years, .ref a_n_cells, .int n_size])), (a_n_years, .inl (k 0, 6, .inl n_years)), (a_n_cells, .inl (k 0, 6, .inl n_cells))] out sz := by
  refine z_metz (cc := cX2_fitsAt) (maxL := 4) (by decide) rfl (Nat.le_of_ble_eq_true rfl) ?_
  intro p e s m below meth c A Q H locs ls hx hb hml hts hown hA hK hE hret hP hD hS hl
  have hown : s.vm.findClass RX2 = some m.cls := hown
  have hl : lv_has ls 4 [(0, .ref a_n), (1, .int u1), (2, .int u2)] := hl
  unfold p_X2_fitsAt at h
  refine lv_iconst (v := 0) hx hb dX2_fitsAt_0 (by decide) ?_
  refine lv_istore_n (lv' := [(3, .int (0 : Int32)), (0, .ref a_n), (1, .int u1), (2, .int u2)]) hx hb dX2_fitsAt_1 rfl hl (by decide) rfl (fun ls hl => ?_)
  obtain ⟨e6, hv, h⟩ := zb h
  have hJ4 : ∀ (x : Int32), .inl x = e6 → x = out := fun x hz => (zs (zpeel_0_2 hz h))
  have hJ5 : ∀ (v7 : Unit), .inr v7 = e6 → zW p l e (zR 0 0) s m ([.ref a_n, .int u1, .int u2] : List Value).toArray below meth c Q 4 A G [(a_n, .inr (2, [.ref a_n_years, .ref a_n_cells, .int n_size])), (a_n_years, .inl (k 0, 6, .inl n_years)), (a_n_cells, .inl (k 0, 6, .inl n_cells))] [] 38 [] := by
    intro v7 hz
    have h := (zpeel_1_2 hz h)
    intro H locs ls hP hD hS hl
    refine lv_iconst (v := 1) hx hb dX2_fitsAt_38 (by decide) ?_
    have hr := (zs h)
    subst hr
    exact hret H locs ls 39 (Or.inr rfl) hP hS dX2_fitsAt_39
  refine z_lpW (Wh := fun (x1 : Int32) => zW p l e (zR 0 0) s m ([.ref a_n, .int u1, .int u2] : List Value).toArray below meth c Q 4 A G [(a_n, .inr (2, [.ref a_n_years, .ref a_n_cells, .int n_size])), (a_n_years, .inl (k 0, 6, .inl n_years)), (a_n_cells, .inl (k 0, 6, .inl n_cells))] [(0, .ref a_n), (1, .int u1), (2, .int u2), (3, .int x1)] 2 []) ?_ 1000 _ hv H locs ls hP hD hS (lv_sub hl [1, 2, 3, 0] rfl)
  clear h
  intro x1 o h hC2 hX3 H locs ls hP hD hS hl
  unfold p_X2_fitsAt_b2 at h
  refine lv_iload_n hx hb dX2_fitsAt_2 rfl (lv_at hl 3 rfl) ?_
  refine lv_aload_n hx hb dX2_fitsAt_3 rfl (lv_at hl 0 rfl) ?_
  refine va_get (D := G) (ci := 2) (v := .int n_size) (C := RX2) (T := TX2) (N := 3) hx hb hts iw_X2_fitsAt_X2 hown hK hP 0 rfl rfl 2 (by decide) (hts (.fieldLink RX2 18 "SpireLean$Sightings" "size" "I") (List.mem_of_getElem? (i := 1) rfl)) (fun _ h9 => h9) rfl dX2_fitsAt_4 ?_
  refine lv_icmp_ge (tgt := 38) hx hb dX2_fitsAt_7 (by decide) (fun c12 => ?_) (fun c12 => ?_)
  · have h := zit c12 h
    exact hJ5 _ (hX3 _ (zs h)) H locs ls hP hD hS (lv_sub hl [] rfl)
  · have h := zif c12 h
    refine lv_aload_n hx hb dX2_fitsAt_10 rfl (lv_at hl 0 rfl) ?_
    refine va_get (D := G) (ci := 2) (v := .ref a_n_years) (C := RX2) (T := TX2) (N := 3) hx hb hts iw_X2_fitsAt_X2 hown hK hP 0 rfl rfl 0 (by decide) (hts (.fieldLink RX2 9 "SpireLean$Sightings" "years" "[I") (List.mem_of_getElem? (i := 2) rfl)) (fun _ h9 => h9) rfl dX2_fitsAt_11 ?_
    refine lv_iload_n hx hb dX2_fitsAt_14 rfl (lv_at hl 3 rfl) ?_
    obtain ⟨v8, hv, h⟩ := zb h
    refine z_iald hx hb hK hP 1 0 rfl rfl hv dX2_fitsAt_15 ?_
    refine lv_iload_n hx hb dX2_fitsAt_16 rfl (lv_at hl 1 rfl) ?_
    refine lv_icmp_ne (tgt := 32) hx hb dX2_fitsAt_17 (by decide) (fun c11 => ?_) (fun c11 => ?_)
    · have h := zif c11 h
      refine lv_iinc (v := x1 + (1 : Int32)) (lv' := [(3, .int (x1 + (1 : Int32))), (0, .ref a_n), (1, .int u1), (2, .int u2)]) hx hb dX2_fitsAt_32 hl (k := 3) rfl rfl (by decide) rfl (fun ls hl => ?_)
      refine lv_goto (tgt := 2) hx hb dX2_fitsAt_35 (by decide) ?_
      exact hC2 _ (zs h) H locs ls hP hD hS (lv_sub hl [1, 2, 3, 0] rfl)
    · have h := zit c11 h
      refine lv_aload_n hx hb dX2_fitsAt_20 rfl (lv_at hl 0 rfl) ?_
      refine va_get (D := G) (ci := 2) (v := .ref a_n_cells) (C := RX2) (T := TX2) (N := 3) hx hb hts iw_X2_fitsAt_X2 hown hK hP 0 rfl rfl 1 (by decide) (hts (.fieldLink RX2 15 "SpireLean$Sightings" "cells" "[I") (List.mem_of_getElem? (i := 3) rfl)) (fun _ h9 => h9) rfl dX2_fitsAt_21 ?_
      refine lv_iload_n hx hb dX2_fitsAt_24 rfl (lv_at hl 3 rfl) ?_
      obtain ⟨v9, hv, h⟩ := zb h
      refine z_iald hx hb hK hP 2 0 rfl rfl hv dX2_fitsAt_25 ?_
      refine lv_iload_n hx hb dX2_fitsAt_26 rfl (lv_at hl 2 rfl) ?_
      refine lv_icmp_eq (tgt := 32) hx hb dX2_fitsAt_27 (by decide) (fun c10 => ?_) (fun c10 => ?_)
      · have h := zit c10 h
        refine lv_iinc (v := x1 + (1 : Int32)) (lv' := [(3, .int (x1 + (1 : Int32))), (0, .ref a_n), (1, .int u1), (2, .int u2)]) hx hb dX2_fitsAt_32 hl (k := 3) rfl rfl (by decide) rfl (fun ls hl => ?_)
        refine lv_goto (tgt := 2) hx hb dX2_fitsAt_35 (by decide) ?_
        exact hC2 _ (zs h) H locs ls hP hD hS (lv_sub hl [1, 2, 3, 0] rfl)
      · have h := zif c10 h
        refine lv_iconst (v := 0) hx hb dX2_fitsAt_30 (by decide) ?_
        have hr := (hJ4 _ (hX3 _ (zs h)))
        subst hr
        exact hret H locs ls 31 (Or.inl rfl) hP hS dX2_fitsAt_31
theorem iw_X2_fits_X4 : ∀ w ∈ wsX40, w ∈ wsX2_fits := fun _ h => List.mem_cons_of_mem _ (List.mem_append_left _ (List.mem_append_right _ h))
set_option maxHeartbeats 4000000 in
set_option maxRecDepth 100000 in
theorem c_X2_fits (l : Launch) (G : va_G) (k : Nat → ClassId) (tL tM : Nat) (sK sV : Nat → Nat) (a_n : Nat) (a_n_years : Nat) (a_n_cells : Nat) (a_t : Nat) (a_t_traits : Nat) (sz : Nat) (n_size : Int32) (n_years : Nat → Int32) (n_cells : Nat → Int32) (t_draws : Int32) (t_foot : Int32) (t_point : Int32) (t_stiff : Int32) (t_bears : Int32) (t_year : Int32) (t_traits : Nat → Int32) (out : Int32 × Int32 × Int32) (h : p_X2_fits n_size n_years n_cells t_draws t_foot t_point t_stiff t_bears t_year t_traits = some out) : zMi l yX2_fits wsX2_fits 5 105 G k tL tM sK sV [.ref a_n, .ref a_t] [(a_n, .inr (2, [.ref a_n_years, .ref a_n_cells, .int n_size])), (a_n_years, .inl (k 0, 6, .inl n_years)), (a_n_cells, .inl (k 0, 6, .inl n_cells)), (a_t, .inr (4, [.ref a_t_traits, .int t_draws, .int t_foot, .int t_point, .int t_stiff, .int t_bears, .int t_year])), (a_t_traits, .inl (k 0, 20, .inl t_traits))] [(a_n, .inr (2, [.ref a_n_years, .ref a_n_cells, .int n_size])), (a_n_years, .inl (k 0, 6, .inl n_years)), (a_n_cells, .inl (k 0, 6, .inl n_cells)), (a_t, .inr (4, [.ref a_t_traits, .int t_draws, .int t_foot, .int out.2.1, .int t_stiff, .int t_bears, .int out.2.2])), (a_t_traits, .inl (k 0, 20, .inl t_traits))] out.1 sz := by
  refine z_metz (cc := cX2_fits) (maxL := 4) (by decide) rfl (Nat.le_of_ble_eq_true rfl) ?_
  intro p e s m below meth c A Q H locs ls hx hb hml hts hown hA hK hE hret hP hD hS hl
  have hown : s.vm.findClass RX2 = some m.cls := hown
  have hl : lv_has ls 4 [(0, .ref a_n), (1, .ref a_t)] := hl
  unfold p_X2_fits at h
  refine lv_aload_n hx hb dX2_fits_0 rfl (lv_at hl 0 rfl) ?_
  obtain ⟨o1, hv, h⟩ := zb h
  refine z_goi (w2 := [(a_n, .inr (2, [.ref a_n_years, .ref a_n_cells, .int n_size])), (a_n_years, .inl (k 0, 6, .inl n_years)), (a_n_cells, .inl (k 0, 6, .inl n_cells)), (a_t, .inr (4, [.ref a_t_traits, .int t_draws, .int t_foot, .int t_point, .int t_stiff, .int t_bears, .int t_year])), (a_t_traits, .inl (k 0, 20, .inl t_traits))]) [0, 1] (va_runV (As := []) (rest := []) ⟨hx, hb, hml, hown, hts⟩ (c_X2_latestYear l G k tL tM sK sV a_n a_n_years a_n_cells H.size n_size n_years o1 hv) (cwV 0 hts gX2_fits_X2_latestYear rfl rfl rfl (by decide +kernel) ⟨Nat.le_of_ble_eq_true rfl, Nat.le_of_ble_eq_true rfl⟩) (z_preV (wc := [(a_n, .inr (2, [.ref a_n_years, .ref a_n_cells, .int n_size])), (a_n_years, .inl (k 0, 6, .inl n_years))]) [0, 1] 0 2 hK hE hA hP hD hS (by decide) rfl rfl rfl) rfl rfl hl.1 rfl (lv_room (Nat.le_of_ble_eq_true rfl)) dX2_fits_1 ⟨Nat.le_refl _, Nat.le_refl _⟩) hA hP hD hS rfl rfl rfl rfl (fun H locs hP hD hS => ?_)
  refine lv_istore_n (lv' := [(2, .int o1), (0, .ref a_n), (1, .ref a_t)]) hx hb dX2_fits_4 rfl hl (by decide) rfl (fun ls hl => ?_)
  refine lv_iconst (v := 0) hx hb dX2_fits_5 (by decide) ?_
  refine lv_istore_n (lv' := [(3, .int (0 : Int32)), (2, .int o1), (0, .ref a_n), (1, .ref a_t)]) hx hb dX2_fits_6 rfl hl (by decide) rfl (fun ls hl => ?_)
  obtain ⟨e7, hv, h⟩ := zb h
  have hJ5 : ∀ (x : Int32 × Int32 × Int32), .inl x = e7 → x = out := fun x hz => (zs (zpeel_0_2 hz h))
  have hJ6 : ∀ (v8 : Int32 × Int32), .inr v8 = e7 → zW p l e (zR 5 105) s m ([.ref a_n, .ref a_t] : List Value).toArray below meth c Q 4 A G [(a_n, .inr (2, [.ref a_n_years, .ref a_n_cells, .int n_size])), (a_n_years, .inl (k 0, 6, .inl n_years)), (a_n_cells, .inl (k 0, 6, .inl n_cells)), (a_t, .inr (4, [.ref a_t_traits, .int t_draws, .int t_foot, .int v8.1, .int t_stiff, .int t_bears, .int v8.2])), (a_t_traits, .inl (k 0, 20, .inl t_traits))] [] 37 [] := by
    intro v8 hz
    have h := (zpeel_1_2 hz h)
    intro H locs ls hP hD hS hl
    refine lv_iconst (v := 1) hx hb dX2_fits_37 (by decide) ?_
    have hr := (zs h)
    subst hr
    exact hret H locs ls 38 (Or.inr rfl) hP hS dX2_fits_38
  refine z_lpW (Wh := fun (x2 : Int32 × Int32 × Int32) => zW p l e (zR 5 105) s m ([.ref a_n, .ref a_t] : List Value).toArray below meth c Q 4 A G [(a_n, .inr (2, [.ref a_n_years, .ref a_n_cells, .int n_size])), (a_n_years, .inl (k 0, 6, .inl n_years)), (a_n_cells, .inl (k 0, 6, .inl n_cells)), (a_t, .inr (4, [.ref a_t_traits, .int t_draws, .int t_foot, .int x2.2.1, .int t_stiff, .int t_bears, .int x2.2.2])), (a_t_traits, .inl (k 0, 20, .inl t_traits))] [(0, .ref a_n), (1, .ref a_t), (2, .int o1), (3, .int x2.1)] 7 []) ?_ 1000 _ hv H locs ls hP hD hS (lv_sub hl [2, 3, 1, 0] rfl)
  clear h
  intro x2 o h hC3 hX4 H locs ls hP hD hS hl
  unfold p_X2_fits_b7 at h
  refine lv_iload_n hx hb dX2_fits_7 rfl (lv_at hl 3 rfl) ?_
  refine lv_iload_n hx hb dX2_fits_8 rfl (lv_at hl 2 rfl) ?_
  refine lv_icmp_gt (tgt := 37) hx hb dX2_fits_9 (by decide) (fun c12 => ?_) (fun c12 => ?_)
  · have h := zit c12 h
    exact hJ6 _ (hX4 _ (zs h)) H locs ls hP hD hS (lv_sub hl [] rfl)
  · have h := zif c12 h
    refine lv_aload_n hx hb dX2_fits_12 rfl (lv_at hl 0 rfl) ?_
    refine lv_iload_n hx hb dX2_fits_13 rfl (lv_at hl 3 rfl) ?_
    refine lv_aload_n hx hb dX2_fits_14 rfl (lv_at hl 1 rfl) ?_
    refine va_getN (D := G) (ci := 4) (v := .int x2.2.1) (C := RX4) (T := TX4) (N := 7) hx hb hts iw_X2_fits_X4 hown hK hP 3 rfl rfl 3 (by decide) (va_Nw.use rfl (hE.1 (.fieldLinkNest RX2 26 "SpireLean$Town" "point" "I" "SpireLean") (List.mem_of_getElem? (i := 4) rfl))) (fun _ h9 => h9) rfl dX2_fits_15 ?_
    obtain ⟨o9, hv, h⟩ := zb h
    refine z_goi (w2 := [(a_n, .inr (2, [.ref a_n_years, .ref a_n_cells, .int n_size])), (a_n_years, .inl (k 0, 6, .inl n_years)), (a_n_cells, .inl (k 0, 6, .inl n_cells)), (a_t, .inr (4, [.ref a_t_traits, .int t_draws, .int t_foot, .int x2.2.1, .int t_stiff, .int t_bears, .int x2.2.2])), (a_t_traits, .inl (k 0, 20, .inl t_traits))]) [0, 1, 2] (va_runV (As := [.int x2.1, .int x2.2.1]) (rest := []) ⟨hx, hb, hml, hown, hts⟩ (c_X2_fitsAt l G k tL tM sK sV a_n a_n_years a_n_cells H.size n_size n_years n_cells x2.1 x2.2.1 o9 hv) (cwV 2 hts gX2_fits_X2_fitsAt rfl rfl rfl (by decide +kernel) ⟨Nat.le_of_ble_eq_true rfl, Nat.le_of_ble_eq_true rfl⟩) (z_preV (wc := [(a_n, .inr (2, [.ref a_n_years, .ref a_n_cells, .int n_size])), (a_n_years, .inl (k 0, 6, .inl n_years)), (a_n_cells, .inl (k 0, 6, .inl n_cells))]) [0, 1, 2] 0 2 hK hE hA hP hD hS (by decide) rfl rfl rfl) rfl rfl hl.1 rfl (lv_room (Nat.le_of_ble_eq_true rfl)) dX2_fits_18 ⟨Nat.le_refl _, Nat.le_refl _⟩) hA hP hD hS rfl rfl rfl rfl (fun H locs hP hD hS => ?_)
    refine lv_if_ne (tgt := 26) hx hb dX2_fits_21 (by decide) (fun c11 => ?_) (fun c11 => ?_)
    · have h := zif c11 h
      refine lv_aload_n hx hb dX2_fits_26 rfl (lv_at hl 1 rfl) ?_
      obtain ⟨o10, hv, h⟩ := zb h
      refine z_goi (w2 := [(a_n, .inr (2, [.ref a_n_years, .ref a_n_cells, .int n_size])), (a_n_years, .inl (k 0, 6, .inl n_years)), (a_n_cells, .inl (k 0, 6, .inl n_cells)), (a_t, .inr (4, [.ref a_t_traits, .int t_draws, .int t_foot, .int o10.2.1, .int t_stiff, .int t_bears, .int o10.2.2])), (a_t_traits, .inl (k 0, 20, .inl t_traits))]) [3, 4] (va_runVN (As := []) (rest := []) ⟨hx, hb, hml, hown, hts⟩ (c_X4_passYear l G k tL tM sK sV a_t a_t_traits H.size t_draws t_foot x2.2.1 t_stiff t_bears x2.2.2 t_traits o10 hv) ⟨va_cnB 0 hts gX2_fits_X4_passYear_n35 rfl rfl rfl (hE.1 (.methodLinkNest RX2 35 yX4_passYear "SpireLean") (List.mem_of_getElem? (i := 65) rfl)) (hts (.initialized RX4) (List.mem_of_getElem? (i := 18) rfl)) (by decide +kernel) ⟨Nat.le_of_ble_eq_true rfl, Nat.le_of_ble_eq_true rfl⟩, (hts (.instanceMethod yX4_passYear) (List.mem_of_getElem? (i := 17) rfl)), (hts (.selects RX4 yX4_passYear yX4_passYear) (List.mem_of_getElem? (i := 19) rfl))⟩ (z_preV (wc := [(a_t, .inr (4, [.ref a_t_traits, .int t_draws, .int t_foot, .int x2.2.1, .int t_stiff, .int t_bears, .int x2.2.2])), (a_t_traits, .inl (k 0, 20, .inl t_traits))]) [3, 4] 3 4 hK hE hA hP hD hS (by decide) rfl rfl rfl) rfl rfl hl.1 rfl (lv_room (Nat.le_of_ble_eq_true rfl)) dX2_fits_27 ⟨Nat.le_refl _, Nat.le_refl _⟩) hA hP hD hS rfl rfl rfl rfl (fun H locs hP hD hS => ?_)
      refine lv_pop hx hb dX2_fits_30 rfl ?_
      refine lv_iinc (v := x2.1 + (1 : Int32)) (lv' := [(3, .int (x2.1 + (1 : Int32))), (0, .ref a_n), (1, .ref a_t), (2, .int o1)]) hx hb dX2_fits_31 hl (k := 3) rfl rfl (by decide) rfl (fun ls hl => ?_)
      refine lv_goto (tgt := 7) hx hb dX2_fits_34 (by decide) ?_
      exact hC3 _ (zs h) H locs ls hP hD hS (lv_sub hl [1, 2, 3, 0] rfl)
    · have h := zit c11 h
      refine lv_iconst (v := 0) hx hb dX2_fits_24 (by decide) ?_
      have hr := (hJ5 _ (hX4 _ (zs h)))
      subst hr
      exact hret H locs ls 25 (Or.inl rfl) hP hS dX2_fits_25
theorem iw_X3_append_X3 : ∀ w ∈ wsX30, w ∈ wsX3_append := fun _ h => List.mem_cons_of_mem _ (List.mem_append_right _ h)
set_option maxHeartbeats 4000000 in
set_option maxRecDepth 100000 in
theorem c_X3_append (l : Launch) (G : va_G) (k : Nat → ClassId) (tL tM : Nat) (sK sV : Nat → Nat) (a_p : Nat) (a_p_bytes : Nat) (sz : Nat) (p_length : Int32) (p_place : Int32) (p_token : Int32) (p_tokenPlace : Int32) (p_number : Int32) (p_told : Int32) (p_fault : Int32) (p_faultPlace : Int32) (p_bytes : Nat → Int32) (u1 : Int32) (out : Int32 × Int32 × (Nat → Int32)) (h : p_X3_append u1 p_length p_bytes = some out) : zMi l yX3_append wsX3_append 0 0 G k tL tM sK sV [.ref a_p, .int u1] [(a_p, .inr (3, [.ref a_p_bytes, .int p_length, .int p_place, .int p_token, .int p_tokenPlace, .int p_number, .int p_told, .int p_fault, .int p_faultPlace])), (a_p_bytes, .inl (k 1, 160, .inl p_bytes))] [(a_p, .inr (3, [.ref a_p_bytes, .int out.2.1, .int p_place, .int p_token, .int p_tokenPlace, .int p_number, .int p_told, .int p_fault, .int p_faultPlace])), (a_p_bytes, .inl (k 1, 160, .inl out.2.2))] out.1 sz := by
  refine z_meti (cc := cX3_append) (maxL := 2) (by decide) rfl (Nat.le_of_ble_eq_true rfl) ?_
  intro p e s m below meth c A Q H locs ls hx hb hml hts hown hA hK hE hret hP hD hS hl
  have hown : s.vm.findClass RX3 = some m.cls := hown
  have hl : lv_has ls 2 [(0, .ref a_p), (1, .int u1)] := hl
  unfold p_X3_append at h
  refine lv_aload_n hx hb dX3_append_0 rfl (lv_at hl 0 rfl) ?_
  refine va_get (D := G) (ci := 3) (v := .int p_length) (C := RX3) (T := TX3) (N := 9) hx hb hts iw_X3_append_X3 hown hK hP 0 rfl rfl 1 (by decide) (hts (.fieldLink RX3 15 "SpireLean$Tape" "length" "I") (List.mem_of_getElem? (i := 1) rfl)) (fun _ h9 => h9) rfl dX3_append_1 ?_
  refine lv_sipush (v := 160) hx hb dX3_append_4 (by decide) ?_
  refine lv_icmp_lt (tgt := 13) hx hb dX3_append_7 (by decide) (fun c2 => ?_) (fun c2 => ?_)
  · have h := zit c2 h
    refine lv_aload_n hx hb dX3_append_13 rfl (lv_at hl 0 rfl) ?_
    refine va_get (D := G) (ci := 3) (v := .ref a_p_bytes) (C := RX3) (T := TX3) (N := 9) hx hb hts iw_X3_append_X3 hown hK hP 0 rfl rfl 0 (by decide) (hts (.fieldLink RX3 11 "SpireLean$Tape" "bytes" "[B") (List.mem_of_getElem? (i := 2) rfl)) (fun _ h9 => h9) rfl dX3_append_14 ?_
    refine lv_aload_n hx hb dX3_append_17 rfl (lv_at hl 0 rfl) ?_
    refine va_get (D := G) (ci := 3) (v := .int p_length) (C := RX3) (T := TX3) (N := 9) hx hb hts iw_X3_append_X3 hown hK hP 0 rfl rfl 1 (by decide) (hts (.fieldLink RX3 15 "SpireLean$Tape" "length" "I") (List.mem_of_getElem? (i := 1) rfl)) (fun _ h9 => h9) rfl dX3_append_18 ?_
    refine lv_iload_n hx hb dX3_append_21 rfl (lv_at hl 1 rfl) ?_
    refine lv_i2b (v := u1.toInt8.toInt32) hx hb dX3_append_22 rfl ?_
    obtain ⟨v1, hv, h⟩ := zb h
    refine z_bast hx hb hK hP hD hS 1 1 rfl rfl hv dX3_append_23 (fun H locs hP hD hS => ?_)
    have hP : va_P G vwCl [(a_p, .inr (3, [.ref a_p_bytes, .int p_length, .int p_place, .int p_token, .int p_tokenPlace, .int p_number, .int p_told, .int p_fault, .int p_faultPlace])), (a_p_bytes, .inl (k 1, 160, .inl v1))] H := hP
    have hD : va_D A [(a_p, .inr (3, [.ref a_p_bytes, .int p_length, .int p_place, .int p_token, .int p_tokenPlace, .int p_number, .int p_told, .int p_fault, .int p_faultPlace])), (a_p_bytes, .inl (k 1, 160, .inl v1))] := hD
    refine lv_aload_n hx hb dX3_append_24 rfl (lv_at hl 0 rfl) ?_
    refine lv_dup hx hb dX3_append_25 rfl ?_
    refine va_get (D := G) (ci := 3) (v := .int p_length) (C := RX3) (T := TX3) (N := 9) hx hb hts iw_X3_append_X3 hown hK hP 0 rfl rfl 1 (by decide) (hts (.fieldLink RX3 15 "SpireLean$Tape" "length" "I") (List.mem_of_getElem? (i := 1) rfl)) (fun _ h9 => h9) rfl dX3_append_26 ?_
    refine lv_iconst (v := 1) hx hb dX3_append_29 (by decide) ?_
    refine lv_iadd hx hb dX3_append_30 ?_
    refine va_put (D := G) (ci := 3) (v := .int (p_length + (1 : Int32))) (ty := .int) (C := RX3) (T := TX3) (N := 9) hx hb hts iw_X3_append_X3 tyX3 tyX3_ok nmX3 hown hK hP hD hS 0 rfl rfl 1 (by decide) (hts (.fieldLink RX3 15 "SpireLean$Tape" "length" "I") (List.mem_of_getElem? (i := 1) rfl)) (fun _ h9 => h9) rfl (tyX3_ok 1 (by decide)) rfl rfl (Nat.le_of_ble_eq_true rfl) dX3_append_31 (fun H locs hP hD hS => ?_)
    have hP : va_P G vwCl [(a_p, .inr (3, [.ref a_p_bytes, .int (p_length + (1 : Int32)), .int p_place, .int p_token, .int p_tokenPlace, .int p_number, .int p_told, .int p_fault, .int p_faultPlace])), (a_p_bytes, .inl (k 1, 160, .inl v1))] H := hP
    have hD : va_D A [(a_p, .inr (3, [.ref a_p_bytes, .int (p_length + (1 : Int32)), .int p_place, .int p_token, .int p_tokenPlace, .int p_number, .int p_told, .int p_fault, .int p_faultPlace])), (a_p_bytes, .inl (k 1, 160, .inl v1))] := hD
    refine lv_aload_n hx hb dX3_append_34 rfl (lv_at hl 0 rfl) ?_
    refine va_get (D := G) (ci := 3) (v := .int (p_length + (1 : Int32))) (C := RX3) (T := TX3) (N := 9) hx hb hts iw_X3_append_X3 hown hK hP 0 rfl rfl 1 (by decide) (hts (.fieldLink RX3 15 "SpireLean$Tape" "length" "I") (List.mem_of_getElem? (i := 1) rfl)) (fun _ h9 => h9) rfl dX3_append_35 ?_
    have hr := (zs h)
    subst hr
    exact hret H locs ls 38 hP hS dX3_append_38
  · have h := zif c2 h
    refine lv_bipush (v := (-3)) hx hb dX3_append_10 (by decide) ?_
    have hr := (zs h)
    subst hr
    exact hret H locs ls 12 hP hS dX3_append_12
set_option maxHeartbeats 4000000 in
set_option maxRecDepth 100000 in
theorem c_X3_isLetter (l : Launch) (G : va_G) (k : Nat → ClassId) (tL tM : Nat) (sK sV : Nat → Nat) (sz : Nat) (u1 : Int32) (out : Int32) (h : p_X3_isLetter u1 = some out) : zMi l yX3_isLetter wsX3_isLetter 0 0 G k tL tM sK sV [.int u1] [] [] out sz := by
  refine z_metz (cc := cX3_isLetter) (maxL := 1) (by decide) rfl (Nat.le_of_ble_eq_true rfl) ?_
  intro p e s m below meth c A Q H locs ls hx hb hml hts hown hA hK hE hret hP hD hS hl
  have hown : s.vm.findClass RX3 = some m.cls := hown
  have hl : lv_has ls 1 [(0, .int u1)] := hl
  unfold p_X3_isLetter at h
  refine lv_iload_n hx hb dX3_isLetter_0 rfl (lv_at hl 0 rfl) ?_
  refine lv_bipush (v := 97) hx hb dX3_isLetter_1 (by decide) ?_
  refine lv_icmp_lt (tgt := 16) hx hb dX3_isLetter_3 (by decide) (fun c2 => ?_) (fun c2 => ?_)
  · have h := zit c2 h
    refine lv_iconst (v := 0) hx hb dX3_isLetter_16 (by decide) ?_
    have hr := (zs h)
    subst hr
    exact hret H locs ls 17 (Or.inl rfl) hP hS dX3_isLetter_17
  · have h := zif c2 h
    refine lv_iload_n hx hb dX3_isLetter_6 rfl (lv_at hl 0 rfl) ?_
    refine lv_bipush (v := 122) hx hb dX3_isLetter_7 (by decide) ?_
    refine lv_icmp_gt (tgt := 16) hx hb dX3_isLetter_9 (by decide) (fun c1 => ?_) (fun c1 => ?_)
    · have h := zit c1 h
      refine lv_iconst (v := 0) hx hb dX3_isLetter_16 (by decide) ?_
      have hr := (zs h)
      subst hr
      exact hret H locs ls 17 (Or.inl rfl) hP hS dX3_isLetter_17
    · have h := zif c1 h
      refine lv_iconst (v := 1) hx hb dX3_isLetter_12 (by decide) ?_
      refine lv_goto (tgt := 17) hx hb dX3_isLetter_13 (by decide) ?_
      have hr := (zs h)
      subst hr
      exact hret H locs ls 17 (Or.inr rfl) hP hS dX3_isLetter_17
theorem iw_X3_readName_X3 : ∀ w ∈ wsX30, w ∈ wsX3_readName := fun _ h => List.mem_cons_of_mem _ (List.mem_append_right _ h)
set_option maxHeartbeats 4000000 in
set_option maxRecDepth 100000 in
theorem c_X3_readName (l : Launch) (G : va_G) (k : Nat → ClassId) (tL tM : Nat) (sK sV : Nat → Nat) (a_p : Nat) (a_p_bytes : Nat) (sz : Nat) (p_length : Int32) (p_place : Int32) (p_token : Int32) (p_tokenPlace : Int32) (p_number : Int32) (p_told : Int32) (p_fault : Int32) (p_faultPlace : Int32) (p_bytes : Nat → Int32) (out : Int32 × Int32) (h : p_X3_readName p_length p_place p_bytes = some out) : zMv l yX3_readName wsX3_readName 1 20 G k tL tM sK sV [.ref a_p] [(a_p, .inr (3, [.ref a_p_bytes, .int p_length, .int p_place, .int p_token, .int p_tokenPlace, .int p_number, .int p_told, .int p_fault, .int p_faultPlace])), (a_p_bytes, .inl (k 1, 160, .inl p_bytes))] [(a_p, .inr (3, [.ref a_p_bytes, .int p_length, .int out.1, .int out.2, .int p_tokenPlace, .int p_number, .int p_told, .int p_fault, .int p_faultPlace])), (a_p_bytes, .inl (k 1, 160, .inl p_bytes))] sz := by
  refine z_metv (cc := cX3_readName) (maxL := 1) (by decide) rfl (Nat.le_of_ble_eq_true rfl) ?_
  intro p e s m below meth c A Q H locs ls hx hb hml hts hown hA hK hE hret hP hD hS hl
  have hown : s.vm.findClass RX3 = some m.cls := hown
  have hl : lv_has ls 1 [(0, .ref a_p)] := hl
  unfold p_X3_readName at h
  refine lv_aload_n hx hb dX3_readName_0 rfl (lv_at hl 0 rfl) ?_
  refine lv_iconst (v := 1) hx hb dX3_readName_1 (by decide) ?_
  refine va_put (D := G) (ci := 3) (v := .int (1 : Int32)) (ty := .int) (C := RX3) (T := TX3) (N := 9) hx hb hts iw_X3_readName_X3 tyX3 tyX3_ok nmX3 hown hK hP hD hS 0 rfl rfl 3 (by decide) (hts (.fieldLink RX3 34 "SpireLean$Tape" "token" "I") (List.mem_of_getElem? (i := 1) rfl)) (fun _ h9 => h9) rfl (tyX3_ok 3 (by decide)) rfl rfl (Nat.le_of_ble_eq_true rfl) dX3_readName_2 (fun H locs hP hD hS => ?_)
  have hP : va_P G vwCl [(a_p, .inr (3, [.ref a_p_bytes, .int p_length, .int p_place, .int (1 : Int32), .int p_tokenPlace, .int p_number, .int p_told, .int p_fault, .int p_faultPlace])), (a_p_bytes, .inl (k 1, 160, .inl p_bytes))] H := hP
  have hD : va_D A [(a_p, .inr (3, [.ref a_p_bytes, .int p_length, .int p_place, .int (1 : Int32), .int p_tokenPlace, .int p_number, .int p_told, .int p_fault, .int p_faultPlace])), (a_p_bytes, .inl (k 1, 160, .inl p_bytes))] := hD
  obtain ⟨e5, hv, h⟩ := zb h
  have hJ4 : ∀ (e5_ : Int32), e5_ = e5 → zW p l e (zR 1 20) s m ([.ref a_p] : List Value).toArray below meth c Q 1 A G [(a_p, .inr (3, [.ref a_p_bytes, .int p_length, .int e5_, .int (1 : Int32), .int p_tokenPlace, .int p_number, .int p_told, .int p_fault, .int p_faultPlace])), (a_p_bytes, .inl (k 1, 160, .inl p_bytes))] [] 44 [] := by
    intro e5_ hz
    subst hz
    intro H locs ls hP hD hS hl
    have hr := (zs h)
    subst hr
    exact hret H locs ls 44 hP hS dX3_readName_44
  refine z_lpW (Wh := fun (x1 : Int32) => zW p l e (zR 1 20) s m ([.ref a_p] : List Value).toArray below meth c Q 1 A G [(a_p, .inr (3, [.ref a_p_bytes, .int p_length, .int x1, .int (1 : Int32), .int p_tokenPlace, .int p_number, .int p_told, .int p_fault, .int p_faultPlace])), (a_p_bytes, .inl (k 1, 160, .inl p_bytes))] [(0, .ref a_p)] 5 []) ?_ 1000 _ hv H locs ls hP hD hS (lv_sub hl [0] rfl)
  clear h
  intro x1 o h hC2 hX3 H locs ls hP hD hS hl
  unfold p_X3_readName_b5 at h
  refine lv_aload_n hx hb dX3_readName_5 rfl (lv_at hl 0 rfl) ?_
  refine va_get (D := G) (ci := 3) (v := .int x1) (C := RX3) (T := TX3) (N := 9) hx hb hts iw_X3_readName_X3 hown hK hP 0 rfl rfl 2 (by decide) (hts (.fieldLink RX3 19 "SpireLean$Tape" "place" "I") (List.mem_of_getElem? (i := 2) rfl)) (fun _ h9 => h9) rfl dX3_readName_6 ?_
  refine lv_aload_n hx hb dX3_readName_9 rfl (lv_at hl 0 rfl) ?_
  refine va_get (D := G) (ci := 3) (v := .int p_length) (C := RX3) (T := TX3) (N := 9) hx hb hts iw_X3_readName_X3 hown hK hP 0 rfl rfl 1 (by decide) (hts (.fieldLink RX3 15 "SpireLean$Tape" "length" "I") (List.mem_of_getElem? (i := 3) rfl)) (fun _ h9 => h9) rfl dX3_readName_10 ?_
  refine lv_icmp_ge (tgt := 44) hx hb dX3_readName_13 (by decide) (fun c10 => ?_) (fun c10 => ?_)
  · have h := zit c10 h
    exact hJ4 _ (hX3 _ (zs h)) H locs ls hP hD hS (lv_sub hl [] rfl)
  · have h := zif c10 h
    refine lv_aload_n hx hb dX3_readName_16 rfl (lv_at hl 0 rfl) ?_
    refine va_get (D := G) (ci := 3) (v := .ref a_p_bytes) (C := RX3) (T := TX3) (N := 9) hx hb hts iw_X3_readName_X3 hown hK hP 0 rfl rfl 0 (by decide) (hts (.fieldLink RX3 11 "SpireLean$Tape" "bytes" "[B") (List.mem_of_getElem? (i := 4) rfl)) (fun _ h9 => h9) rfl dX3_readName_17 ?_
    refine lv_aload_n hx hb dX3_readName_20 rfl (lv_at hl 0 rfl) ?_
    refine va_get (D := G) (ci := 3) (v := .int x1) (C := RX3) (T := TX3) (N := 9) hx hb hts iw_X3_readName_X3 hown hK hP 0 rfl rfl 2 (by decide) (hts (.fieldLink RX3 19 "SpireLean$Tape" "place" "I") (List.mem_of_getElem? (i := 2) rfl)) (fun _ h9 => h9) rfl dX3_readName_21 ?_
    obtain ⟨v7, hv, h⟩ := zb h
    refine z_bald hx hb hK hP 1 1 rfl rfl hv dX3_readName_24 ?_
    obtain ⟨o8, hv, h⟩ := zb h
    refine z_goi (w2 := [(a_p, .inr (3, [.ref a_p_bytes, .int p_length, .int x1, .int (1 : Int32), .int p_tokenPlace, .int p_number, .int p_told, .int p_fault, .int p_faultPlace])), (a_p_bytes, .inl (k 1, 160, .inl p_bytes))]) [] (va_runS (As := [.int v7]) (rest := []) ⟨hx, hb, hml, hown, hts⟩ (c_X3_isLetter l G k tL tM sK sV H.size v7 o8 hv) (va_cwS 1 hts gX3_readName_X3_isLetter rfl rfl rfl (by decide +kernel) ⟨Nat.le_of_ble_eq_true rfl, Nat.le_of_ble_eq_true rfl⟩) (z_preS (wc := []) [] hK hE hA hP hD hS (by decide) rfl) rfl rfl hl.1 rfl (lv_room (Nat.le_of_ble_eq_true rfl)) dX3_readName_25 ⟨Nat.le_refl _, Nat.le_refl _⟩) hA hP hD hS rfl rfl rfl rfl (fun H locs hP hD hS => ?_)
    refine lv_if_eq (tgt := 44) hx hb dX3_readName_28 (by decide) (fun c9 => ?_) (fun c9 => ?_)
    · have h := zit c9 h
      exact hJ4 _ (hX3 _ (zs h)) H locs ls hP hD hS (lv_sub hl [] rfl)
    · have h := zif c9 h
      refine lv_aload_n hx hb dX3_readName_31 rfl (lv_at hl 0 rfl) ?_
      refine lv_dup hx hb dX3_readName_32 rfl ?_
      refine va_get (D := G) (ci := 3) (v := .int x1) (C := RX3) (T := TX3) (N := 9) hx hb hts iw_X3_readName_X3 hown hK hP 0 rfl rfl 2 (by decide) (hts (.fieldLink RX3 19 "SpireLean$Tape" "place" "I") (List.mem_of_getElem? (i := 2) rfl)) (fun _ h9 => h9) rfl dX3_readName_33 ?_
      refine lv_iconst (v := 1) hx hb dX3_readName_36 (by decide) ?_
      refine lv_iadd hx hb dX3_readName_37 ?_
      refine va_put (D := G) (ci := 3) (v := .int (x1 + (1 : Int32))) (ty := .int) (C := RX3) (T := TX3) (N := 9) hx hb hts iw_X3_readName_X3 tyX3 tyX3_ok nmX3 hown hK hP hD hS 0 rfl rfl 2 (by decide) (hts (.fieldLink RX3 19 "SpireLean$Tape" "place" "I") (List.mem_of_getElem? (i := 2) rfl)) (fun _ h9 => h9) rfl (tyX3_ok 2 (by decide)) rfl rfl (Nat.le_of_ble_eq_true rfl) dX3_readName_38 (fun H locs hP hD hS => ?_)
      have hP : va_P G vwCl [(a_p, .inr (3, [.ref a_p_bytes, .int p_length, .int (x1 + (1 : Int32)), .int (1 : Int32), .int p_tokenPlace, .int p_number, .int p_told, .int p_fault, .int p_faultPlace])), (a_p_bytes, .inl (k 1, 160, .inl p_bytes))] H := hP
      have hD : va_D A [(a_p, .inr (3, [.ref a_p_bytes, .int p_length, .int (x1 + (1 : Int32)), .int (1 : Int32), .int p_tokenPlace, .int p_number, .int p_told, .int p_fault, .int p_faultPlace])), (a_p_bytes, .inl (k 1, 160, .inl p_bytes))] := hD
      refine lv_goto (tgt := 5) hx hb dX3_readName_41 (by decide) ?_
      exact hC2 _ (zs h) H locs ls hP hD hS (lv_sub hl [0] rfl)
set_option maxHeartbeats 4000000 in
set_option maxRecDepth 100000 in
theorem c_X3_isFigure (l : Launch) (G : va_G) (k : Nat → ClassId) (tL tM : Nat) (sK sV : Nat → Nat) (sz : Nat) (u1 : Int32) (out : Int32) (h : p_X3_isFigure u1 = some out) : zMi l yX3_isFigure wsX3_isFigure 0 0 G k tL tM sK sV [.int u1] [] [] out sz := by
  refine z_metz (cc := cX3_isFigure) (maxL := 1) (by decide) rfl (Nat.le_of_ble_eq_true rfl) ?_
  intro p e s m below meth c A Q H locs ls hx hb hml hts hown hA hK hE hret hP hD hS hl
  have hown : s.vm.findClass RX3 = some m.cls := hown
  have hl : lv_has ls 1 [(0, .int u1)] := hl
  unfold p_X3_isFigure at h
  refine lv_iload_n hx hb dX3_isFigure_0 rfl (lv_at hl 0 rfl) ?_
  refine lv_bipush (v := 48) hx hb dX3_isFigure_1 (by decide) ?_
  refine lv_icmp_lt (tgt := 16) hx hb dX3_isFigure_3 (by decide) (fun c2 => ?_) (fun c2 => ?_)
  · have h := zit c2 h
    refine lv_iconst (v := 0) hx hb dX3_isFigure_16 (by decide) ?_
    have hr := (zs h)
    subst hr
    exact hret H locs ls 17 (Or.inl rfl) hP hS dX3_isFigure_17
  · have h := zif c2 h
    refine lv_iload_n hx hb dX3_isFigure_6 rfl (lv_at hl 0 rfl) ?_
    refine lv_bipush (v := 57) hx hb dX3_isFigure_7 (by decide) ?_
    refine lv_icmp_gt (tgt := 16) hx hb dX3_isFigure_9 (by decide) (fun c1 => ?_) (fun c1 => ?_)
    · have h := zit c1 h
      refine lv_iconst (v := 0) hx hb dX3_isFigure_16 (by decide) ?_
      have hr := (zs h)
      subst hr
      exact hret H locs ls 17 (Or.inl rfl) hP hS dX3_isFigure_17
    · have h := zif c1 h
      refine lv_iconst (v := 1) hx hb dX3_isFigure_12 (by decide) ?_
      refine lv_goto (tgt := 17) hx hb dX3_isFigure_13 (by decide) ?_
      have hr := (zs h)
      subst hr
      exact hret H locs ls 17 (Or.inr rfl) hP hS dX3_isFigure_17
theorem iw_X3_fail_X3 : ∀ w ∈ wsX30, w ∈ wsX3_fail := fun _ h => List.mem_cons_of_mem _ (List.mem_append_right _ h)
set_option maxHeartbeats 4000000 in
set_option maxRecDepth 100000 in
theorem c_X3_fail (l : Launch) (G : va_G) (k : Nat → ClassId) (tL tM : Nat) (sK sV : Nat → Nat) (a_p : Nat) (a_p_bytes : Nat) (sz : Nat) (p_length : Int32) (p_place : Int32) (p_token : Int32) (p_tokenPlace : Int32) (p_number : Int32) (p_told : Int32) (p_fault : Int32) (p_faultPlace : Int32) (u1 : Int32) (out : Int32 × Int32) (h : p_X3_fail u1 p_tokenPlace p_fault p_faultPlace = some out) : zMv l yX3_fail wsX3_fail 0 0 G k tL tM sK sV [.ref a_p, .int u1] [(a_p, .inr (3, [.ref a_p_bytes, .int p_length, .int p_place, .int p_token, .int p_tokenPlace, .int p_number, .int p_told, .int p_fault, .int p_faultPlace]))] [(a_p, .inr (3, [.ref a_p_bytes, .int p_length, .int p_place, .int p_token, .int p_tokenPlace, .int p_number, .int p_told, .int out.1, .int out.2]))] sz := by
  refine z_metv (cc := cX3_fail) (maxL := 2) (by decide) rfl (Nat.le_of_ble_eq_true rfl) ?_
  intro p e s m below meth c A Q H locs ls hx hb hml hts hown hA hK hE hret hP hD hS hl
  have hown : s.vm.findClass RX3 = some m.cls := hown
  have hl : lv_has ls 2 [(0, .ref a_p), (1, .int u1)] := hl
  unfold p_X3_fail at h
  refine lv_aload_n hx hb dX3_fail_0 rfl (lv_at hl 0 rfl) ?_
  refine va_get (D := G) (ci := 3) (v := .int p_fault) (C := RX3) (T := TX3) (N := 9) hx hb hts iw_X3_fail_X3 hown hK hP 0 rfl rfl 7 (by decide) (hts (.fieldLink RX3 25 "SpireLean$Tape" "fault" "I") (List.mem_of_getElem? (i := 1) rfl)) (fun _ h9 => h9) rfl dX3_fail_1 ?_
  refine lv_if_ne (tgt := 20) hx hb dX3_fail_4 (by decide) (fun c1 => ?_) (fun c1 => ?_)
  · have h := zif c1 h
    have hr := (zs h)
    subst hr
    exact hret H locs ls 20 hP hS dX3_fail_20
  · have h := zit c1 h
    refine lv_aload_n hx hb dX3_fail_7 rfl (lv_at hl 0 rfl) ?_
    refine lv_iload_n hx hb dX3_fail_8 rfl (lv_at hl 1 rfl) ?_
    refine va_put (D := G) (ci := 3) (v := .int u1) (ty := .int) (C := RX3) (T := TX3) (N := 9) hx hb hts iw_X3_fail_X3 tyX3 tyX3_ok nmX3 hown hK hP hD hS 0 rfl rfl 7 (by decide) (hts (.fieldLink RX3 25 "SpireLean$Tape" "fault" "I") (List.mem_of_getElem? (i := 1) rfl)) (fun _ h9 => h9) rfl (tyX3_ok 7 (by decide)) rfl rfl (Nat.le_of_ble_eq_true rfl) dX3_fail_9 (fun H locs hP hD hS => ?_)
    have hP : va_P G vwCl [(a_p, .inr (3, [.ref a_p_bytes, .int p_length, .int p_place, .int p_token, .int p_tokenPlace, .int p_number, .int p_told, .int u1, .int p_faultPlace]))] H := hP
    have hD : va_D A [(a_p, .inr (3, [.ref a_p_bytes, .int p_length, .int p_place, .int p_token, .int p_tokenPlace, .int p_number, .int p_told, .int u1, .int p_faultPlace]))] := hD
    refine lv_aload_n hx hb dX3_fail_12 rfl (lv_at hl 0 rfl) ?_
    refine lv_aload_n hx hb dX3_fail_13 rfl (lv_at hl 0 rfl) ?_
    refine va_get (D := G) (ci := 3) (v := .int p_tokenPlace) (C := RX3) (T := TX3) (N := 9) hx hb hts iw_X3_fail_X3 hown hK hP 0 rfl rfl 4 (by decide) (hts (.fieldLink RX3 99 "SpireLean$Tape" "tokenPlace" "I") (List.mem_of_getElem? (i := 2) rfl)) (fun _ h9 => h9) rfl dX3_fail_14 ?_
    refine va_put (D := G) (ci := 3) (v := .int p_tokenPlace) (ty := .int) (C := RX3) (T := TX3) (N := 9) hx hb hts iw_X3_fail_X3 tyX3 tyX3_ok nmX3 hown hK hP hD hS 0 rfl rfl 8 (by decide) (hts (.fieldLink RX3 28 "SpireLean$Tape" "faultPlace" "I") (List.mem_of_getElem? (i := 3) rfl)) (fun _ h9 => h9) rfl (tyX3_ok 8 (by decide)) rfl rfl (Nat.le_of_ble_eq_true rfl) dX3_fail_17 (fun H locs hP hD hS => ?_)
    have hP : va_P G vwCl [(a_p, .inr (3, [.ref a_p_bytes, .int p_length, .int p_place, .int p_token, .int p_tokenPlace, .int p_number, .int p_told, .int u1, .int p_tokenPlace]))] H := hP
    have hD : va_D A [(a_p, .inr (3, [.ref a_p_bytes, .int p_length, .int p_place, .int p_token, .int p_tokenPlace, .int p_number, .int p_told, .int u1, .int p_tokenPlace]))] := hD
    have hr := (zs h)
    subst hr
    exact hret H locs ls 20 hP hS dX3_fail_20
theorem iw_X3_readNumber_X3 : ∀ w ∈ wsX30, w ∈ wsX3_readNumber := fun _ h => List.mem_cons_of_mem _ (List.mem_append_right _ h)
set_option maxHeartbeats 4000000 in
set_option maxRecDepth 100000 in
theorem c_X3_readNumber (l : Launch) (G : va_G) (k : Nat → ClassId) (tL tM : Nat) (sK sV : Nat → Nat) (a_p : Nat) (a_p_bytes : Nat) (sz : Nat) (p_length : Int32) (p_place : Int32) (p_token : Int32) (p_tokenPlace : Int32) (p_number : Int32) (p_told : Int32) (p_fault : Int32) (p_faultPlace : Int32) (p_bytes : Nat → Int32) (out : Int32 × Int32 × Int32 × Int32 × Int32) (h : p_X3_readNumber p_length p_place p_tokenPlace p_fault p_faultPlace p_bytes = some out) : zMv l yX3_readNumber wsX3_readNumber 1 21 G k tL tM sK sV [.ref a_p] [(a_p, .inr (3, [.ref a_p_bytes, .int p_length, .int p_place, .int p_token, .int p_tokenPlace, .int p_number, .int p_told, .int p_fault, .int p_faultPlace])), (a_p_bytes, .inl (k 1, 160, .inl p_bytes))] [(a_p, .inr (3, [.ref a_p_bytes, .int p_length, .int out.1, .int out.2.1, .int p_tokenPlace, .int out.2.2.1, .int p_told, .int out.2.2.2.1, .int out.2.2.2.2])), (a_p_bytes, .inl (k 1, 160, .inl p_bytes))] sz := by
  refine z_metv (cc := cX3_readNumber) (maxL := 1) (by decide) rfl (Nat.le_of_ble_eq_true rfl) ?_
  intro p e s m below meth c A Q H locs ls hx hb hml hts hown hA hK hE hret hP hD hS hl
  have hown : s.vm.findClass RX3 = some m.cls := hown
  have hl : lv_has ls 1 [(0, .ref a_p)] := hl
  unfold p_X3_readNumber at h
  refine lv_aload_n hx hb dX3_readNumber_0 rfl (lv_at hl 0 rfl) ?_
  refine lv_iconst (v := 2) hx hb dX3_readNumber_1 (by decide) ?_
  refine va_put (D := G) (ci := 3) (v := .int (2 : Int32)) (ty := .int) (C := RX3) (T := TX3) (N := 9) hx hb hts iw_X3_readNumber_X3 tyX3 tyX3_ok nmX3 hown hK hP hD hS 0 rfl rfl 3 (by decide) (hts (.fieldLink RX3 34 "SpireLean$Tape" "token" "I") (List.mem_of_getElem? (i := 1) rfl)) (fun _ h9 => h9) rfl (tyX3_ok 3 (by decide)) rfl rfl (Nat.le_of_ble_eq_true rfl) dX3_readNumber_2 (fun H locs hP hD hS => ?_)
  have hP : va_P G vwCl [(a_p, .inr (3, [.ref a_p_bytes, .int p_length, .int p_place, .int (2 : Int32), .int p_tokenPlace, .int p_number, .int p_told, .int p_fault, .int p_faultPlace])), (a_p_bytes, .inl (k 1, 160, .inl p_bytes))] H := hP
  have hD : va_D A [(a_p, .inr (3, [.ref a_p_bytes, .int p_length, .int p_place, .int (2 : Int32), .int p_tokenPlace, .int p_number, .int p_told, .int p_fault, .int p_faultPlace])), (a_p_bytes, .inl (k 1, 160, .inl p_bytes))] := hD
  refine lv_aload_n hx hb dX3_readNumber_5 rfl (lv_at hl 0 rfl) ?_
  refine lv_iconst (v := 0) hx hb dX3_readNumber_6 (by decide) ?_
  refine va_put (D := G) (ci := 3) (v := .int (0 : Int32)) (ty := .int) (C := RX3) (T := TX3) (N := 9) hx hb hts iw_X3_readNumber_X3 tyX3 tyX3_ok nmX3 hown hK hP hD hS 0 rfl rfl 5 (by decide) (hts (.fieldLink RX3 92 "SpireLean$Tape" "number" "I") (List.mem_of_getElem? (i := 2) rfl)) (fun _ h9 => h9) rfl (tyX3_ok 5 (by decide)) rfl rfl (Nat.le_of_ble_eq_true rfl) dX3_readNumber_7 (fun H locs hP hD hS => ?_)
  have hP : va_P G vwCl [(a_p, .inr (3, [.ref a_p_bytes, .int p_length, .int p_place, .int (2 : Int32), .int p_tokenPlace, .int (0 : Int32), .int p_told, .int p_fault, .int p_faultPlace])), (a_p_bytes, .inl (k 1, 160, .inl p_bytes))] H := hP
  have hD : va_D A [(a_p, .inr (3, [.ref a_p_bytes, .int p_length, .int p_place, .int (2 : Int32), .int p_tokenPlace, .int (0 : Int32), .int p_told, .int p_fault, .int p_faultPlace])), (a_p_bytes, .inl (k 1, 160, .inl p_bytes))] := hD
  obtain ⟨e5, hv, h⟩ := zb h
  have hJ4 : ∀ (e5_ : Int32 × Int32), e5_ = e5 → zW p l e (zR 1 21) s m ([.ref a_p] : List Value).toArray below meth c Q 1 A G [(a_p, .inr (3, [.ref a_p_bytes, .int p_length, .int e5_.1, .int (2 : Int32), .int p_tokenPlace, .int e5_.2, .int p_told, .int p_fault, .int p_faultPlace])), (a_p_bytes, .inl (k 1, 160, .inl p_bytes))] [(0, .ref a_p)] 73 [] := by
    intro e5_ hz
    subst hz
    intro H locs ls hP hD hS hl
    refine lv_aload_n hx hb dX3_readNumber_73 rfl (lv_at hl 0 rfl) ?_
    refine va_get (D := G) (ci := 3) (v := .int e5_.1) (C := RX3) (T := TX3) (N := 9) hx hb hts iw_X3_readNumber_X3 hown hK hP 0 rfl rfl 2 (by decide) (hts (.fieldLink RX3 19 "SpireLean$Tape" "place" "I") (List.mem_of_getElem? (i := 3) rfl)) (fun _ h9 => h9) rfl dX3_readNumber_74 ?_
    refine lv_aload_n hx hb dX3_readNumber_77 rfl (lv_at hl 0 rfl) ?_
    refine va_get (D := G) (ci := 3) (v := .int p_tokenPlace) (C := RX3) (T := TX3) (N := 9) hx hb hts iw_X3_readNumber_X3 hown hK hP 0 rfl rfl 4 (by decide) (hts (.fieldLink RX3 99 "SpireLean$Tape" "tokenPlace" "I") (List.mem_of_getElem? (i := 6) rfl)) (fun _ h9 => h9) rfl dX3_readNumber_78 ?_
    refine lv_isub hx hb dX3_readNumber_81 ?_
    refine lv_iconst (v := 2) hx hb dX3_readNumber_82 (by decide) ?_
    refine lv_icmp_le (tgt := 91) hx hb dX3_readNumber_83 (by decide) (fun c13 => ?_) (fun c13 => ?_)
    · have h := zit c13 h
      have hr := (zs h)
      subst hr
      exact hret H locs ls 91 hP hS dX3_readNumber_91
    · have h := zif c13 h
      refine lv_aload_n hx hb dX3_readNumber_86 rfl (lv_at hl 0 rfl) ?_
      refine lv_iconst (v := 1) hx hb dX3_readNumber_87 (by decide) ?_
      obtain ⟨o12, hv, h⟩ := zb h
      refine z_gov (w2 := [(a_p, .inr (3, [.ref a_p_bytes, .int p_length, .int e5_.1, .int (2 : Int32), .int p_tokenPlace, .int e5_.2, .int p_told, .int o12.1, .int o12.2])), (a_p_bytes, .inl (k 1, 160, .inl p_bytes))]) [0] (va_runV (As := [.int (1 : Int32)]) (rest := []) ⟨hx, hb, hml, hown, hts⟩ (c_X3_fail l G k tL tM sK sV a_p a_p_bytes H.size p_length e5_.1 (2 : Int32) p_tokenPlace e5_.2 p_told p_fault p_faultPlace (1 : Int32) o12 hv) (cwV 1 hts gX3_readNumber_X3_fail rfl rfl rfl (by decide +kernel) ⟨Nat.le_of_ble_eq_true rfl, Nat.le_of_ble_eq_true rfl⟩) (z_preV (wc := [(a_p, .inr (3, [.ref a_p_bytes, .int p_length, .int e5_.1, .int (2 : Int32), .int p_tokenPlace, .int e5_.2, .int p_told, .int p_fault, .int p_faultPlace]))]) [0] 0 3 hK hE hA hP hD hS (by decide) rfl rfl rfl) rfl rfl hl.1 rfl (lv_room (Nat.le_of_ble_eq_true rfl)) dX3_readNumber_88 ⟨Nat.le_refl _, Nat.le_refl _⟩) hA hP hD hS rfl rfl rfl rfl (fun H locs hP hD hS => ?_)
      have hr := (zs h)
      subst hr
      exact hret H locs ls 91 hP hS dX3_readNumber_91
  refine z_lpW (Wh := fun (x1 : Int32 × Int32) => zW p l e (zR 1 21) s m ([.ref a_p] : List Value).toArray below meth c Q 1 A G [(a_p, .inr (3, [.ref a_p_bytes, .int p_length, .int x1.1, .int (2 : Int32), .int p_tokenPlace, .int x1.2, .int p_told, .int p_fault, .int p_faultPlace])), (a_p_bytes, .inl (k 1, 160, .inl p_bytes))] [(0, .ref a_p)] 10 []) ?_ 1000 _ hv H locs ls hP hD hS (lv_sub hl [0] rfl)
  clear h
  intro x1 o h hC2 hX3 H locs ls hP hD hS hl
  unfold p_X3_readNumber_b10 at h
  refine lv_aload_n hx hb dX3_readNumber_10 rfl (lv_at hl 0 rfl) ?_
  refine va_get (D := G) (ci := 3) (v := .int x1.1) (C := RX3) (T := TX3) (N := 9) hx hb hts iw_X3_readNumber_X3 hown hK hP 0 rfl rfl 2 (by decide) (hts (.fieldLink RX3 19 "SpireLean$Tape" "place" "I") (List.mem_of_getElem? (i := 3) rfl)) (fun _ h9 => h9) rfl dX3_readNumber_11 ?_
  refine lv_aload_n hx hb dX3_readNumber_14 rfl (lv_at hl 0 rfl) ?_
  refine va_get (D := G) (ci := 3) (v := .int p_length) (C := RX3) (T := TX3) (N := 9) hx hb hts iw_X3_readNumber_X3 hown hK hP 0 rfl rfl 1 (by decide) (hts (.fieldLink RX3 15 "SpireLean$Tape" "length" "I") (List.mem_of_getElem? (i := 4) rfl)) (fun _ h9 => h9) rfl dX3_readNumber_15 ?_
  refine lv_icmp_ge (tgt := 73) hx hb dX3_readNumber_18 (by decide) (fun c11 => ?_) (fun c11 => ?_)
  · have h := zit c11 h
    exact hJ4 _ (hX3 _ (zs h)) H locs ls hP hD hS (lv_sub hl [0] rfl)
  · have h := zif c11 h
    refine lv_aload_n hx hb dX3_readNumber_21 rfl (lv_at hl 0 rfl) ?_
    refine va_get (D := G) (ci := 3) (v := .ref a_p_bytes) (C := RX3) (T := TX3) (N := 9) hx hb hts iw_X3_readNumber_X3 hown hK hP 0 rfl rfl 0 (by decide) (hts (.fieldLink RX3 11 "SpireLean$Tape" "bytes" "[B") (List.mem_of_getElem? (i := 5) rfl)) (fun _ h9 => h9) rfl dX3_readNumber_22 ?_
    refine lv_aload_n hx hb dX3_readNumber_25 rfl (lv_at hl 0 rfl) ?_
    refine va_get (D := G) (ci := 3) (v := .int x1.1) (C := RX3) (T := TX3) (N := 9) hx hb hts iw_X3_readNumber_X3 hown hK hP 0 rfl rfl 2 (by decide) (hts (.fieldLink RX3 19 "SpireLean$Tape" "place" "I") (List.mem_of_getElem? (i := 3) rfl)) (fun _ h9 => h9) rfl dX3_readNumber_26 ?_
    obtain ⟨v7, hv, h⟩ := zb h
    refine z_bald hx hb hK hP 1 1 rfl rfl hv dX3_readNumber_29 ?_
    obtain ⟨o8, hv, h⟩ := zb h
    refine z_goi (w2 := [(a_p, .inr (3, [.ref a_p_bytes, .int p_length, .int x1.1, .int (2 : Int32), .int p_tokenPlace, .int x1.2, .int p_told, .int p_fault, .int p_faultPlace])), (a_p_bytes, .inl (k 1, 160, .inl p_bytes))]) [] (va_runS (As := [.int v7]) (rest := []) ⟨hx, hb, hml, hown, hts⟩ (c_X3_isFigure l G k tL tM sK sV H.size v7 o8 hv) (va_cwS 1 hts gX3_readNumber_X3_isFigure rfl rfl rfl (by decide +kernel) ⟨Nat.le_of_ble_eq_true rfl, Nat.le_of_ble_eq_true rfl⟩) (z_preS (wc := []) [] hK hE hA hP hD hS (by decide) rfl) rfl rfl hl.1 rfl (lv_room (Nat.le_of_ble_eq_true rfl)) dX3_readNumber_30 ⟨Nat.le_refl _, Nat.le_refl _⟩) hA hP hD hS rfl rfl rfl rfl (fun H locs hP hD hS => ?_)
    refine lv_if_eq (tgt := 73) hx hb dX3_readNumber_33 (by decide) (fun c10 => ?_) (fun c10 => ?_)
    · have h := zit c10 h
      exact hJ4 _ (hX3 _ (zs h)) H locs ls hP hD hS (lv_sub hl [0] rfl)
    · have h := zif c10 h
      refine lv_aload_n hx hb dX3_readNumber_36 rfl (lv_at hl 0 rfl) ?_
      refine lv_bipush (v := 10) hx hb dX3_readNumber_37 (by decide) ?_
      refine lv_aload_n hx hb dX3_readNumber_39 rfl (lv_at hl 0 rfl) ?_
      refine va_get (D := G) (ci := 3) (v := .int x1.2) (C := RX3) (T := TX3) (N := 9) hx hb hts iw_X3_readNumber_X3 hown hK hP 0 rfl rfl 5 (by decide) (hts (.fieldLink RX3 92 "SpireLean$Tape" "number" "I") (List.mem_of_getElem? (i := 2) rfl)) (fun _ h9 => h9) rfl dX3_readNumber_40 ?_
      refine lv_imul hx hb dX3_readNumber_43 ?_
      refine lv_aload_n hx hb dX3_readNumber_44 rfl (lv_at hl 0 rfl) ?_
      refine va_get (D := G) (ci := 3) (v := .ref a_p_bytes) (C := RX3) (T := TX3) (N := 9) hx hb hts iw_X3_readNumber_X3 hown hK hP 0 rfl rfl 0 (by decide) (hts (.fieldLink RX3 11 "SpireLean$Tape" "bytes" "[B") (List.mem_of_getElem? (i := 5) rfl)) (fun _ h9 => h9) rfl dX3_readNumber_45 ?_
      refine lv_aload_n hx hb dX3_readNumber_48 rfl (lv_at hl 0 rfl) ?_
      refine va_get (D := G) (ci := 3) (v := .int x1.1) (C := RX3) (T := TX3) (N := 9) hx hb hts iw_X3_readNumber_X3 hown hK hP 0 rfl rfl 2 (by decide) (hts (.fieldLink RX3 19 "SpireLean$Tape" "place" "I") (List.mem_of_getElem? (i := 3) rfl)) (fun _ h9 => h9) rfl dX3_readNumber_49 ?_
      obtain ⟨v9, hv, h⟩ := zb h
      refine z_bald hx hb hK hP 1 1 rfl rfl hv dX3_readNumber_52 ?_
      refine lv_iadd hx hb dX3_readNumber_53 ?_
      refine lv_bipush (v := 48) hx hb dX3_readNumber_54 (by decide) ?_
      refine lv_isub hx hb dX3_readNumber_56 ?_
      refine va_put (D := G) (ci := 3) (v := .int ((((10 : Int32) * x1.2) + v9) - (48 : Int32))) (ty := .int) (C := RX3) (T := TX3) (N := 9) hx hb hts iw_X3_readNumber_X3 tyX3 tyX3_ok nmX3 hown hK hP hD hS 0 rfl rfl 5 (by decide) (hts (.fieldLink RX3 92 "SpireLean$Tape" "number" "I") (List.mem_of_getElem? (i := 2) rfl)) (fun _ h9 => h9) rfl (tyX3_ok 5 (by decide)) rfl rfl (Nat.le_of_ble_eq_true rfl) dX3_readNumber_57 (fun H locs hP hD hS => ?_)
      have hP : va_P G vwCl [(a_p, .inr (3, [.ref a_p_bytes, .int p_length, .int x1.1, .int (2 : Int32), .int p_tokenPlace, .int ((((10 : Int32) * x1.2) + v9) - (48 : Int32)), .int p_told, .int p_fault, .int p_faultPlace])), (a_p_bytes, .inl (k 1, 160, .inl p_bytes))] H := hP
      have hD : va_D A [(a_p, .inr (3, [.ref a_p_bytes, .int p_length, .int x1.1, .int (2 : Int32), .int p_tokenPlace, .int ((((10 : Int32) * x1.2) + v9) - (48 : Int32)), .int p_told, .int p_fault, .int p_faultPlace])), (a_p_bytes, .inl (k 1, 160, .inl p_bytes))] := hD
      refine lv_aload_n hx hb dX3_readNumber_60 rfl (lv_at hl 0 rfl) ?_
      refine lv_dup hx hb dX3_readNumber_61 rfl ?_
      refine va_get (D := G) (ci := 3) (v := .int x1.1) (C := RX3) (T := TX3) (N := 9) hx hb hts iw_X3_readNumber_X3 hown hK hP 0 rfl rfl 2 (by decide) (hts (.fieldLink RX3 19 "SpireLean$Tape" "place" "I") (List.mem_of_getElem? (i := 3) rfl)) (fun _ h9 => h9) rfl dX3_readNumber_62 ?_
      refine lv_iconst (v := 1) hx hb dX3_readNumber_65 (by decide) ?_
      refine lv_iadd hx hb dX3_readNumber_66 ?_
      refine va_put (D := G) (ci := 3) (v := .int (x1.1 + (1 : Int32))) (ty := .int) (C := RX3) (T := TX3) (N := 9) hx hb hts iw_X3_readNumber_X3 tyX3 tyX3_ok nmX3 hown hK hP hD hS 0 rfl rfl 2 (by decide) (hts (.fieldLink RX3 19 "SpireLean$Tape" "place" "I") (List.mem_of_getElem? (i := 3) rfl)) (fun _ h9 => h9) rfl (tyX3_ok 2 (by decide)) rfl rfl (Nat.le_of_ble_eq_true rfl) dX3_readNumber_67 (fun H locs hP hD hS => ?_)
      have hP : va_P G vwCl [(a_p, .inr (3, [.ref a_p_bytes, .int p_length, .int (x1.1 + (1 : Int32)), .int (2 : Int32), .int p_tokenPlace, .int ((((10 : Int32) * x1.2) + v9) - (48 : Int32)), .int p_told, .int p_fault, .int p_faultPlace])), (a_p_bytes, .inl (k 1, 160, .inl p_bytes))] H := hP
      have hD : va_D A [(a_p, .inr (3, [.ref a_p_bytes, .int p_length, .int (x1.1 + (1 : Int32)), .int (2 : Int32), .int p_tokenPlace, .int ((((10 : Int32) * x1.2) + v9) - (48 : Int32)), .int p_told, .int p_fault, .int p_faultPlace])), (a_p_bytes, .inl (k 1, 160, .inl p_bytes))] := hD
      refine lv_goto (tgt := 10) hx hb dX3_readNumber_70 (by decide) ?_
      exact hC2 _ (zs h) H locs ls hP hD hS (lv_sub hl [0] rfl)
theorem iw_X3_readToken_X3 : ∀ w ∈ wsX30, w ∈ wsX3_readToken := fun _ h => List.mem_cons_of_mem _ (List.mem_append_right _ h)
set_option maxHeartbeats 4000000 in
set_option maxRecDepth 100000 in
theorem c_X3_readToken (l : Launch) (G : va_G) (k : Nat → ClassId) (tL tM : Nat) (sK sV : Nat → Nat) (a_p : Nat) (a_p_bytes : Nat) (sz : Nat) (p_length : Int32) (p_place : Int32) (p_token : Int32) (p_tokenPlace : Int32) (p_number : Int32) (p_told : Int32) (p_fault : Int32) (p_faultPlace : Int32) (p_bytes : Nat → Int32) (out : Int32 × Int32 × Int32 × Int32 × Int32 × Int32) (h : p_X3_readToken p_length p_place p_token p_tokenPlace p_number p_fault p_faultPlace p_bytes = some out) : zMv l yX3_readToken wsX3_readToken 2 41 G k tL tM sK sV [.ref a_p] [(a_p, .inr (3, [.ref a_p_bytes, .int p_length, .int p_place, .int p_token, .int p_tokenPlace, .int p_number, .int p_told, .int p_fault, .int p_faultPlace])), (a_p_bytes, .inl (k 1, 160, .inl p_bytes))] [(a_p, .inr (3, [.ref a_p_bytes, .int p_length, .int out.1, .int out.2.1, .int out.2.2.1, .int out.2.2.2.1, .int p_told, .int out.2.2.2.2.1, .int out.2.2.2.2.2])), (a_p_bytes, .inl (k 1, 160, .inl p_bytes))] sz := by
  refine z_metv (cc := cX3_readToken) (maxL := 1) (by decide) rfl (Nat.le_of_ble_eq_true rfl) ?_
  intro p e s m below meth c A Q H locs ls hx hb hml hts hown hA hK hE hret hP hD hS hl
  have hown : s.vm.findClass RX3 = some m.cls := hown
  have hl : lv_has ls 1 [(0, .ref a_p)] := hl
  unfold p_X3_readToken at h
  refine lv_aload_n hx hb dX3_readToken_0 rfl (lv_at hl 0 rfl) ?_
  refine va_get (D := G) (ci := 3) (v := .int p_fault) (C := RX3) (T := TX3) (N := 9) hx hb hts iw_X3_readToken_X3 hown hK hP 0 rfl rfl 7 (by decide) (hts (.fieldLink RX3 25 "SpireLean$Tape" "fault" "I") (List.mem_of_getElem? (i := 1) rfl)) (fun _ h9 => h9) rfl dX3_readToken_1 ?_
  refine lv_if_eq (tgt := 8) hx hb dX3_readToken_4 (by decide) (fun c22 => ?_) (fun c22 => ?_)
  · have h := zit c22 h
    obtain ⟨e5, hv, h⟩ := zb h
    have hJ4 : ∀ (e5_ : Int32), e5_ = e5 → zW p l e (zR 2 41) s m ([.ref a_p] : List Value).toArray below meth c Q 1 A G [(a_p, .inr (3, [.ref a_p_bytes, .int p_length, .int e5_, .int p_token, .int p_tokenPlace, .int p_number, .int p_told, .int p_fault, .int p_faultPlace])), (a_p_bytes, .inl (k 1, 160, .inl p_bytes))] [(0, .ref a_p)] 46 [] := by
      intro e5_ hz
      subst hz
      intro H locs ls hP hD hS hl
      refine lv_aload_n hx hb dX3_readToken_46 rfl (lv_at hl 0 rfl) ?_
      refine lv_aload_n hx hb dX3_readToken_47 rfl (lv_at hl 0 rfl) ?_
      refine va_get (D := G) (ci := 3) (v := .int e5_) (C := RX3) (T := TX3) (N := 9) hx hb hts iw_X3_readToken_X3 hown hK hP 0 rfl rfl 2 (by decide) (hts (.fieldLink RX3 19 "SpireLean$Tape" "place" "I") (List.mem_of_getElem? (i := 2) rfl)) (fun _ h9 => h9) rfl dX3_readToken_48 ?_
      refine va_put (D := G) (ci := 3) (v := .int e5_) (ty := .int) (C := RX3) (T := TX3) (N := 9) hx hb hts iw_X3_readToken_X3 tyX3 tyX3_ok nmX3 hown hK hP hD hS 0 rfl rfl 4 (by decide) (hts (.fieldLink RX3 99 "SpireLean$Tape" "tokenPlace" "I") (List.mem_of_getElem? (i := 5) rfl)) (fun _ h9 => h9) rfl (tyX3_ok 4 (by decide)) rfl rfl (Nat.le_of_ble_eq_true rfl) dX3_readToken_51 (fun H locs hP hD hS => ?_)
      have hP : va_P G vwCl [(a_p, .inr (3, [.ref a_p_bytes, .int p_length, .int e5_, .int p_token, .int e5_, .int p_number, .int p_told, .int p_fault, .int p_faultPlace])), (a_p_bytes, .inl (k 1, 160, .inl p_bytes))] H := hP
      have hD : va_D A [(a_p, .inr (3, [.ref a_p_bytes, .int p_length, .int e5_, .int p_token, .int e5_, .int p_number, .int p_told, .int p_fault, .int p_faultPlace])), (a_p_bytes, .inl (k 1, 160, .inl p_bytes))] := hD
      refine lv_aload_n hx hb dX3_readToken_54 rfl (lv_at hl 0 rfl) ?_
      refine va_get (D := G) (ci := 3) (v := .int e5_) (C := RX3) (T := TX3) (N := 9) hx hb hts iw_X3_readToken_X3 hown hK hP 0 rfl rfl 2 (by decide) (hts (.fieldLink RX3 19 "SpireLean$Tape" "place" "I") (List.mem_of_getElem? (i := 2) rfl)) (fun _ h9 => h9) rfl dX3_readToken_55 ?_
      refine lv_aload_n hx hb dX3_readToken_58 rfl (lv_at hl 0 rfl) ?_
      refine va_get (D := G) (ci := 3) (v := .int p_length) (C := RX3) (T := TX3) (N := 9) hx hb hts iw_X3_readToken_X3 hown hK hP 0 rfl rfl 1 (by decide) (hts (.fieldLink RX3 15 "SpireLean$Tape" "length" "I") (List.mem_of_getElem? (i := 3) rfl)) (fun _ h9 => h9) rfl dX3_readToken_59 ?_
      refine lv_icmp_lt (tgt := 73) hx hb dX3_readToken_62 (by decide) (fun c21 => ?_) (fun c21 => ?_)
      · have h := zit c21 h
        refine lv_aload_n hx hb dX3_readToken_73 rfl (lv_at hl 0 rfl) ?_
        refine va_get (D := G) (ci := 3) (v := .ref a_p_bytes) (C := RX3) (T := TX3) (N := 9) hx hb hts iw_X3_readToken_X3 hown hK hP 0 rfl rfl 0 (by decide) (hts (.fieldLink RX3 11 "SpireLean$Tape" "bytes" "[B") (List.mem_of_getElem? (i := 4) rfl)) (fun _ h9 => h9) rfl dX3_readToken_74 ?_
        refine lv_aload_n hx hb dX3_readToken_77 rfl (lv_at hl 0 rfl) ?_
        refine va_get (D := G) (ci := 3) (v := .int e5_) (C := RX3) (T := TX3) (N := 9) hx hb hts iw_X3_readToken_X3 hown hK hP 0 rfl rfl 2 (by decide) (hts (.fieldLink RX3 19 "SpireLean$Tape" "place" "I") (List.mem_of_getElem? (i := 2) rfl)) (fun _ h9 => h9) rfl dX3_readToken_78 ?_
        obtain ⟨v10, hv, h⟩ := zb h
        refine z_bald hx hb hK hP 1 1 rfl rfl hv dX3_readToken_81 ?_
        obtain ⟨o11, hv, h⟩ := zb h
        refine z_goi (w2 := [(a_p, .inr (3, [.ref a_p_bytes, .int p_length, .int e5_, .int p_token, .int e5_, .int p_number, .int p_told, .int p_fault, .int p_faultPlace])), (a_p_bytes, .inl (k 1, 160, .inl p_bytes))]) [] (va_runS (As := [.int v10]) (rest := []) ⟨hx, hb, hml, hown, hts⟩ (c_X3_isLetter l G k tL tM sK sV H.size v10 o11 hv) (va_cwS 1 hts gX3_readToken_X3_isLetter rfl rfl rfl (by decide +kernel) ⟨Nat.le_of_ble_eq_true rfl, Nat.le_of_ble_eq_true rfl⟩) (z_preS (wc := []) [] hK hE hA hP hD hS (by decide) rfl) rfl rfl hl.1 rfl (lv_room (Nat.le_of_ble_eq_true rfl)) dX3_readToken_82 ⟨Nat.le_refl _, Nat.le_refl _⟩) hA hP hD hS rfl rfl rfl rfl (fun H locs hP hD hS => ?_)
        refine lv_if_eq (tgt := 95) hx hb dX3_readToken_85 (by decide) (fun c20 => ?_) (fun c20 => ?_)
        · have h := zit c20 h
          refine lv_aload_n hx hb dX3_readToken_95 rfl (lv_at hl 0 rfl) ?_
          refine va_get (D := G) (ci := 3) (v := .ref a_p_bytes) (C := RX3) (T := TX3) (N := 9) hx hb hts iw_X3_readToken_X3 hown hK hP 0 rfl rfl 0 (by decide) (hts (.fieldLink RX3 11 "SpireLean$Tape" "bytes" "[B") (List.mem_of_getElem? (i := 4) rfl)) (fun _ h9 => h9) rfl dX3_readToken_96 ?_
          refine lv_aload_n hx hb dX3_readToken_99 rfl (lv_at hl 0 rfl) ?_
          refine va_get (D := G) (ci := 3) (v := .int e5_) (C := RX3) (T := TX3) (N := 9) hx hb hts iw_X3_readToken_X3 hown hK hP 0 rfl rfl 2 (by decide) (hts (.fieldLink RX3 19 "SpireLean$Tape" "place" "I") (List.mem_of_getElem? (i := 2) rfl)) (fun _ h9 => h9) rfl dX3_readToken_100 ?_
          obtain ⟨v12, hv, h⟩ := zb h
          refine z_bald hx hb hK hP 1 1 rfl rfl hv dX3_readToken_103 ?_
          obtain ⟨o13, hv, h⟩ := zb h
          refine z_goi (w2 := [(a_p, .inr (3, [.ref a_p_bytes, .int p_length, .int e5_, .int p_token, .int e5_, .int p_number, .int p_told, .int p_fault, .int p_faultPlace])), (a_p_bytes, .inl (k 1, 160, .inl p_bytes))]) [] (va_runS (As := [.int v12]) (rest := []) ⟨hx, hb, hml, hown, hts⟩ (c_X3_isFigure l G k tL tM sK sV H.size v12 o13 hv) (va_cwS 1 hts gX3_readToken_X3_isFigure rfl rfl rfl (by decide +kernel) ⟨Nat.le_of_ble_eq_true rfl, Nat.le_of_ble_eq_true rfl⟩) (z_preS (wc := []) [] hK hE hA hP hD hS (by decide) rfl) rfl rfl hl.1 rfl (lv_room (Nat.le_of_ble_eq_true rfl)) dX3_readToken_104 ⟨Nat.le_refl _, Nat.le_refl _⟩) hA hP hD hS rfl rfl rfl rfl (fun H locs hP hD hS => ?_)
          refine lv_if_eq (tgt := 117) hx hb dX3_readToken_107 (by decide) (fun c18 => ?_) (fun c18 => ?_)
          · have h := zit c18 h
            refine lv_aload_n hx hb dX3_readToken_117 rfl (lv_at hl 0 rfl) ?_
            refine va_get (D := G) (ci := 3) (v := .ref a_p_bytes) (C := RX3) (T := TX3) (N := 9) hx hb hts iw_X3_readToken_X3 hown hK hP 0 rfl rfl 0 (by decide) (hts (.fieldLink RX3 11 "SpireLean$Tape" "bytes" "[B") (List.mem_of_getElem? (i := 4) rfl)) (fun _ h9 => h9) rfl dX3_readToken_118 ?_
            refine lv_aload_n hx hb dX3_readToken_121 rfl (lv_at hl 0 rfl) ?_
            refine va_get (D := G) (ci := 3) (v := .int e5_) (C := RX3) (T := TX3) (N := 9) hx hb hts iw_X3_readToken_X3 hown hK hP 0 rfl rfl 2 (by decide) (hts (.fieldLink RX3 19 "SpireLean$Tape" "place" "I") (List.mem_of_getElem? (i := 2) rfl)) (fun _ h9 => h9) rfl dX3_readToken_122 ?_
            obtain ⟨v14, hv, h⟩ := zb h
            refine z_bald hx hb hK hP 1 1 rfl rfl hv dX3_readToken_125 ?_
            refine lv_bipush (v := 59) hx hb dX3_readToken_126 (by decide) ?_
            refine lv_icmp_ne (tgt := 149) hx hb dX3_readToken_128 (by decide) (fun c16 => ?_) (fun c16 => ?_)
            · have h := zif c16 h
              refine lv_aload_n hx hb dX3_readToken_149 rfl (lv_at hl 0 rfl) ?_
              refine lv_iconst (v := 1) hx hb dX3_readToken_150 (by decide) ?_
              obtain ⟨o15, hv, h⟩ := zb h
              refine z_gov (w2 := [(a_p, .inr (3, [.ref a_p_bytes, .int p_length, .int e5_, .int p_token, .int e5_, .int p_number, .int p_told, .int o15.1, .int o15.2])), (a_p_bytes, .inl (k 1, 160, .inl p_bytes))]) [0] (va_runV (As := [.int (1 : Int32)]) (rest := []) ⟨hx, hb, hml, hown, hts⟩ (c_X3_fail l G k tL tM sK sV a_p a_p_bytes H.size p_length e5_ p_token e5_ p_number p_told p_fault p_faultPlace (1 : Int32) o15 hv) (cwV 1 hts gX3_readToken_X3_fail rfl rfl rfl (by decide +kernel) ⟨Nat.le_of_ble_eq_true rfl, Nat.le_of_ble_eq_true rfl⟩) (z_preV (wc := [(a_p, .inr (3, [.ref a_p_bytes, .int p_length, .int e5_, .int p_token, .int e5_, .int p_number, .int p_told, .int p_fault, .int p_faultPlace]))]) [0] 0 3 hK hE hA hP hD hS (by decide) rfl rfl rfl) rfl rfl hl.1 rfl (lv_room (Nat.le_of_ble_eq_true rfl)) dX3_readToken_151 ⟨Nat.le_refl _, Nat.le_refl _⟩) hA hP hD hS rfl rfl rfl rfl (fun H locs hP hD hS => ?_)
              have hr := (zs h)
              subst hr
              exact hret H locs ls 154 hP hS dX3_readToken_154
            · have h := zit c16 h
              refine lv_aload_n hx hb dX3_readToken_131 rfl (lv_at hl 0 rfl) ?_
              refine lv_iconst (v := 3) hx hb dX3_readToken_132 (by decide) ?_
              refine va_put (D := G) (ci := 3) (v := .int (3 : Int32)) (ty := .int) (C := RX3) (T := TX3) (N := 9) hx hb hts iw_X3_readToken_X3 tyX3 tyX3_ok nmX3 hown hK hP hD hS 0 rfl rfl 3 (by decide) (hts (.fieldLink RX3 34 "SpireLean$Tape" "token" "I") (List.mem_of_getElem? (i := 6) rfl)) (fun _ h9 => h9) rfl (tyX3_ok 3 (by decide)) rfl rfl (Nat.le_of_ble_eq_true rfl) dX3_readToken_133 (fun H locs hP hD hS => ?_)
              have hP : va_P G vwCl [(a_p, .inr (3, [.ref a_p_bytes, .int p_length, .int e5_, .int (3 : Int32), .int e5_, .int p_number, .int p_told, .int p_fault, .int p_faultPlace])), (a_p_bytes, .inl (k 1, 160, .inl p_bytes))] H := hP
              have hD : va_D A [(a_p, .inr (3, [.ref a_p_bytes, .int p_length, .int e5_, .int (3 : Int32), .int e5_, .int p_number, .int p_told, .int p_fault, .int p_faultPlace])), (a_p_bytes, .inl (k 1, 160, .inl p_bytes))] := hD
              refine lv_aload_n hx hb dX3_readToken_136 rfl (lv_at hl 0 rfl) ?_
              refine lv_dup hx hb dX3_readToken_137 rfl ?_
              refine va_get (D := G) (ci := 3) (v := .int e5_) (C := RX3) (T := TX3) (N := 9) hx hb hts iw_X3_readToken_X3 hown hK hP 0 rfl rfl 2 (by decide) (hts (.fieldLink RX3 19 "SpireLean$Tape" "place" "I") (List.mem_of_getElem? (i := 2) rfl)) (fun _ h9 => h9) rfl dX3_readToken_138 ?_
              refine lv_iconst (v := 1) hx hb dX3_readToken_141 (by decide) ?_
              refine lv_iadd hx hb dX3_readToken_142 ?_
              refine va_put (D := G) (ci := 3) (v := .int (e5_ + (1 : Int32))) (ty := .int) (C := RX3) (T := TX3) (N := 9) hx hb hts iw_X3_readToken_X3 tyX3 tyX3_ok nmX3 hown hK hP hD hS 0 rfl rfl 2 (by decide) (hts (.fieldLink RX3 19 "SpireLean$Tape" "place" "I") (List.mem_of_getElem? (i := 2) rfl)) (fun _ h9 => h9) rfl (tyX3_ok 2 (by decide)) rfl rfl (Nat.le_of_ble_eq_true rfl) dX3_readToken_143 (fun H locs hP hD hS => ?_)
              have hP : va_P G vwCl [(a_p, .inr (3, [.ref a_p_bytes, .int p_length, .int (e5_ + (1 : Int32)), .int (3 : Int32), .int e5_, .int p_number, .int p_told, .int p_fault, .int p_faultPlace])), (a_p_bytes, .inl (k 1, 160, .inl p_bytes))] H := hP
              have hD : va_D A [(a_p, .inr (3, [.ref a_p_bytes, .int p_length, .int (e5_ + (1 : Int32)), .int (3 : Int32), .int e5_, .int p_number, .int p_told, .int p_fault, .int p_faultPlace])), (a_p_bytes, .inl (k 1, 160, .inl p_bytes))] := hD
              refine lv_goto (tgt := 154) hx hb dX3_readToken_146 (by decide) ?_
              have hr := (zs h)
              subst hr
              exact hret H locs ls 154 hP hS dX3_readToken_154
          · have h := zif c18 h
            refine lv_aload_n hx hb dX3_readToken_110 rfl (lv_at hl 0 rfl) ?_
            obtain ⟨o17, hv, h⟩ := zb h
            refine z_gov (w2 := [(a_p, .inr (3, [.ref a_p_bytes, .int p_length, .int o17.1, .int o17.2.1, .int e5_, .int o17.2.2.1, .int p_told, .int o17.2.2.2.1, .int o17.2.2.2.2])), (a_p_bytes, .inl (k 1, 160, .inl p_bytes))]) [0, 1] (va_runV (As := []) (rest := []) ⟨hx, hb, hml, hown, hts⟩ (c_X3_readNumber l G k tL tM sK sV a_p a_p_bytes H.size p_length e5_ p_token e5_ p_number p_told p_fault p_faultPlace p_bytes o17 hv) (cwV 0 hts gX3_readToken_X3_readNumber rfl rfl rfl (by decide +kernel) ⟨Nat.le_of_ble_eq_true rfl, Nat.le_of_ble_eq_true rfl⟩) (z_preV (wc := [(a_p, .inr (3, [.ref a_p_bytes, .int p_length, .int e5_, .int p_token, .int e5_, .int p_number, .int p_told, .int p_fault, .int p_faultPlace])), (a_p_bytes, .inl (k 1, 160, .inl p_bytes))]) [0, 1] 0 3 hK hE hA hP hD hS (by decide) rfl rfl rfl) rfl rfl hl.1 rfl (lv_room (Nat.le_of_ble_eq_true rfl)) dX3_readToken_111 ⟨Nat.le_refl _, Nat.le_refl _⟩) hA hP hD hS rfl rfl rfl rfl (fun H locs hP hD hS => ?_)
            refine lv_goto (tgt := 154) hx hb dX3_readToken_114 (by decide) ?_
            have hr := (zs h)
            subst hr
            exact hret H locs ls 154 hP hS dX3_readToken_154
        · have h := zif c20 h
          refine lv_aload_n hx hb dX3_readToken_88 rfl (lv_at hl 0 rfl) ?_
          obtain ⟨o19, hv, h⟩ := zb h
          refine z_gov (w2 := [(a_p, .inr (3, [.ref a_p_bytes, .int p_length, .int o19.1, .int o19.2, .int e5_, .int p_number, .int p_told, .int p_fault, .int p_faultPlace])), (a_p_bytes, .inl (k 1, 160, .inl p_bytes))]) [0, 1] (va_runV (As := []) (rest := []) ⟨hx, hb, hml, hown, hts⟩ (c_X3_readName l G k tL tM sK sV a_p a_p_bytes H.size p_length e5_ p_token e5_ p_number p_told p_fault p_faultPlace p_bytes o19 hv) (cwV 0 hts gX3_readToken_X3_readName rfl rfl rfl (by decide +kernel) ⟨Nat.le_of_ble_eq_true rfl, Nat.le_of_ble_eq_true rfl⟩) (z_preV (wc := [(a_p, .inr (3, [.ref a_p_bytes, .int p_length, .int e5_, .int p_token, .int e5_, .int p_number, .int p_told, .int p_fault, .int p_faultPlace])), (a_p_bytes, .inl (k 1, 160, .inl p_bytes))]) [0, 1] 0 3 hK hE hA hP hD hS (by decide) rfl rfl rfl) rfl rfl hl.1 rfl (lv_room (Nat.le_of_ble_eq_true rfl)) dX3_readToken_89 ⟨Nat.le_refl _, Nat.le_refl _⟩) hA hP hD hS rfl rfl rfl rfl (fun H locs hP hD hS => ?_)
          refine lv_goto (tgt := 154) hx hb dX3_readToken_92 (by decide) ?_
          have hr := (zs h)
          subst hr
          exact hret H locs ls 154 hP hS dX3_readToken_154
      · have h := zif c21 h
        refine lv_aload_n hx hb dX3_readToken_65 rfl (lv_at hl 0 rfl) ?_
        refine lv_iconst (v := 0) hx hb dX3_readToken_66 (by decide) ?_
        refine va_put (D := G) (ci := 3) (v := .int (0 : Int32)) (ty := .int) (C := RX3) (T := TX3) (N := 9) hx hb hts iw_X3_readToken_X3 tyX3 tyX3_ok nmX3 hown hK hP hD hS 0 rfl rfl 3 (by decide) (hts (.fieldLink RX3 34 "SpireLean$Tape" "token" "I") (List.mem_of_getElem? (i := 6) rfl)) (fun _ h9 => h9) rfl (tyX3_ok 3 (by decide)) rfl rfl (Nat.le_of_ble_eq_true rfl) dX3_readToken_67 (fun H locs hP hD hS => ?_)
        have hP : va_P G vwCl [(a_p, .inr (3, [.ref a_p_bytes, .int p_length, .int e5_, .int (0 : Int32), .int e5_, .int p_number, .int p_told, .int p_fault, .int p_faultPlace])), (a_p_bytes, .inl (k 1, 160, .inl p_bytes))] H := hP
        have hD : va_D A [(a_p, .inr (3, [.ref a_p_bytes, .int p_length, .int e5_, .int (0 : Int32), .int e5_, .int p_number, .int p_told, .int p_fault, .int p_faultPlace])), (a_p_bytes, .inl (k 1, 160, .inl p_bytes))] := hD
        refine lv_goto (tgt := 154) hx hb dX3_readToken_70 (by decide) ?_
        have hr := (zs h)
        subst hr
        exact hret H locs ls 154 hP hS dX3_readToken_154
    refine z_lpW (Wh := fun (x1 : Int32) => zW p l e (zR 2 41) s m ([.ref a_p] : List Value).toArray below meth c Q 1 A G [(a_p, .inr (3, [.ref a_p_bytes, .int p_length, .int x1, .int p_token, .int p_tokenPlace, .int p_number, .int p_told, .int p_fault, .int p_faultPlace])), (a_p_bytes, .inl (k 1, 160, .inl p_bytes))] [(0, .ref a_p)] 8 []) ?_ 1000 _ hv H locs ls hP hD hS (lv_sub hl [0] rfl)
    clear h
    intro x1 o h hC2 hX3 H locs ls hP hD hS hl
    unfold p_X3_readToken_b8 at h
    refine lv_aload_n hx hb dX3_readToken_8 rfl (lv_at hl 0 rfl) ?_
    refine va_get (D := G) (ci := 3) (v := .int x1) (C := RX3) (T := TX3) (N := 9) hx hb hts iw_X3_readToken_X3 hown hK hP 0 rfl rfl 2 (by decide) (hts (.fieldLink RX3 19 "SpireLean$Tape" "place" "I") (List.mem_of_getElem? (i := 2) rfl)) (fun _ h9 => h9) rfl dX3_readToken_9 ?_
    refine lv_aload_n hx hb dX3_readToken_12 rfl (lv_at hl 0 rfl) ?_
    refine va_get (D := G) (ci := 3) (v := .int p_length) (C := RX3) (T := TX3) (N := 9) hx hb hts iw_X3_readToken_X3 hown hK hP 0 rfl rfl 1 (by decide) (hts (.fieldLink RX3 15 "SpireLean$Tape" "length" "I") (List.mem_of_getElem? (i := 3) rfl)) (fun _ h9 => h9) rfl dX3_readToken_13 ?_
    refine lv_icmp_ge (tgt := 46) hx hb dX3_readToken_16 (by decide) (fun c9 => ?_) (fun c9 => ?_)
    · have h := zit c9 h
      exact hJ4 _ (hX3 _ (zs h)) H locs ls hP hD hS (lv_sub hl [0] rfl)
    · have h := zif c9 h
      refine lv_aload_n hx hb dX3_readToken_19 rfl (lv_at hl 0 rfl) ?_
      refine va_get (D := G) (ci := 3) (v := .ref a_p_bytes) (C := RX3) (T := TX3) (N := 9) hx hb hts iw_X3_readToken_X3 hown hK hP 0 rfl rfl 0 (by decide) (hts (.fieldLink RX3 11 "SpireLean$Tape" "bytes" "[B") (List.mem_of_getElem? (i := 4) rfl)) (fun _ h9 => h9) rfl dX3_readToken_20 ?_
      refine lv_aload_n hx hb dX3_readToken_23 rfl (lv_at hl 0 rfl) ?_
      refine va_get (D := G) (ci := 3) (v := .int x1) (C := RX3) (T := TX3) (N := 9) hx hb hts iw_X3_readToken_X3 hown hK hP 0 rfl rfl 2 (by decide) (hts (.fieldLink RX3 19 "SpireLean$Tape" "place" "I") (List.mem_of_getElem? (i := 2) rfl)) (fun _ h9 => h9) rfl dX3_readToken_24 ?_
      obtain ⟨v7, hv, h⟩ := zb h
      refine z_bald hx hb hK hP 1 1 rfl rfl hv dX3_readToken_27 ?_
      refine lv_bipush (v := 32) hx hb dX3_readToken_28 (by decide) ?_
      refine lv_icmp_ne (tgt := 46) hx hb dX3_readToken_30 (by decide) (fun c8 => ?_) (fun c8 => ?_)
      · have h := zif c8 h
        exact hJ4 _ (hX3 _ (zs h)) H locs ls hP hD hS (lv_sub hl [0] rfl)
      · have h := zit c8 h
        refine lv_aload_n hx hb dX3_readToken_33 rfl (lv_at hl 0 rfl) ?_
        refine lv_dup hx hb dX3_readToken_34 rfl ?_
        refine va_get (D := G) (ci := 3) (v := .int x1) (C := RX3) (T := TX3) (N := 9) hx hb hts iw_X3_readToken_X3 hown hK hP 0 rfl rfl 2 (by decide) (hts (.fieldLink RX3 19 "SpireLean$Tape" "place" "I") (List.mem_of_getElem? (i := 2) rfl)) (fun _ h9 => h9) rfl dX3_readToken_35 ?_
        refine lv_iconst (v := 1) hx hb dX3_readToken_38 (by decide) ?_
        refine lv_iadd hx hb dX3_readToken_39 ?_
        refine va_put (D := G) (ci := 3) (v := .int (x1 + (1 : Int32))) (ty := .int) (C := RX3) (T := TX3) (N := 9) hx hb hts iw_X3_readToken_X3 tyX3 tyX3_ok nmX3 hown hK hP hD hS 0 rfl rfl 2 (by decide) (hts (.fieldLink RX3 19 "SpireLean$Tape" "place" "I") (List.mem_of_getElem? (i := 2) rfl)) (fun _ h9 => h9) rfl (tyX3_ok 2 (by decide)) rfl rfl (Nat.le_of_ble_eq_true rfl) dX3_readToken_40 (fun H locs hP hD hS => ?_)
        have hP : va_P G vwCl [(a_p, .inr (3, [.ref a_p_bytes, .int p_length, .int (x1 + (1 : Int32)), .int p_token, .int p_tokenPlace, .int p_number, .int p_told, .int p_fault, .int p_faultPlace])), (a_p_bytes, .inl (k 1, 160, .inl p_bytes))] H := hP
        have hD : va_D A [(a_p, .inr (3, [.ref a_p_bytes, .int p_length, .int (x1 + (1 : Int32)), .int p_token, .int p_tokenPlace, .int p_number, .int p_told, .int p_fault, .int p_faultPlace])), (a_p_bytes, .inl (k 1, 160, .inl p_bytes))] := hD
        refine lv_goto (tgt := 8) hx hb dX3_readToken_43 (by decide) ?_
        exact hC2 _ (zs h) H locs ls hP hD hS (lv_sub hl [0] rfl)
  · have h := zif c22 h
    have hr := (zs h)
    subst hr
    exact hret H locs ls 7 hP hS dX3_readToken_7
set_option maxHeartbeats 4000000 in
set_option maxRecDepth 100000 in
theorem c_X3_spelling (l : Launch) (G : va_G) (k : Nat → ClassId) (tL tM : Nat) (sK sV : Nat → Nat) (sz : Nat) (u1 : Int32) (out : Nat) (h : p_X3_spelling u1 = some out) : zMs l yX3_spelling wsX3_spelling 0 0 G k tL tM sK sV [.int u1] [] [] (sK out) sz := by
  refine z_mets (cc := cX3_spelling) (maxL := 1) (by decide) rfl (Nat.le_of_ble_eq_true rfl) ?_
  intro p e s m below meth c A Q H locs ls hx hb hml hts hown hA hK hE hret hP hD hS hl
  have hown : s.vm.findClass RX3 = some m.cls := hown
  have hl : lv_has ls 1 [(0, .int u1)] := hl
  unfold p_X3_spelling at h
  refine lv_iload_n hx hb dX3_spelling_0 rfl (lv_at hl 0 rfl) ?_
  by_cases c1 : u1 = (0 : Int32)
  · have h := zit c1 h
    refine lv_tableIn (off := 39) (tgt := 40) hx hb dX3_spelling_1 (by rw [c1]; decide) (by rw [c1]; decide) (by rw [c1]; decide) (by decide) ?_
    refine va_ldcS hx hb hown (hE.2.2.2.2.2.1 0 (by decide)) dX3_spelling_40 ?_
    have hr := (zs h)
    subst hr
    exact hret H locs ls 42 hP hS dX3_spelling_42
  · have h := zif c1 h
    by_cases c2 : u1 = (1 : Int32)
    · have h := zit c2 h
      refine lv_tableIn (off := 42) (tgt := 43) hx hb dX3_spelling_1 (by rw [c2]; decide) (by rw [c2]; decide) (by rw [c2]; decide) (by decide) ?_
      refine va_ldcS hx hb hown (hE.2.2.2.2.2.1 1 (by decide)) dX3_spelling_43 ?_
      have hr := (zs h)
      subst hr
      exact hret H locs ls 45 hP hS dX3_spelling_45
    · have h := zif c2 h
      by_cases c3 : u1 = (2 : Int32)
      · have h := zit c3 h
        refine lv_tableIn (off := 45) (tgt := 46) hx hb dX3_spelling_1 (by rw [c3]; decide) (by rw [c3]; decide) (by rw [c3]; decide) (by decide) ?_
        refine va_ldcS hx hb hown (hE.2.2.2.2.2.1 2 (by decide)) dX3_spelling_46 ?_
        have hr := (zs h)
        subst hr
        exact hret H locs ls 48 hP hS dX3_spelling_48
      · have h := zif c3 h
        by_cases c4 : u1 = (3 : Int32)
        · have h := zit c4 h
          refine lv_tableIn (off := 48) (tgt := 49) hx hb dX3_spelling_1 (by rw [c4]; decide) (by rw [c4]; decide) (by rw [c4]; decide) (by decide) ?_
          refine va_ldcS hx hb hown (hE.2.2.2.2.2.1 3 (by decide)) dX3_spelling_49 ?_
          have hr := (zs h)
          subst hr
          exact hret H locs ls 51 hP hS dX3_spelling_51
        · have h := zif c4 h
          by_cases c5 : u1 = (4 : Int32)
          · have h := zit c5 h
            refine lv_tableIn (off := 51) (tgt := 52) hx hb dX3_spelling_1 (by rw [c5]; decide) (by rw [c5]; decide) (by rw [c5]; decide) (by decide) ?_
            refine va_ldcS hx hb hown (hE.2.2.2.2.2.1 4 (by decide)) dX3_spelling_52 ?_
            have hr := (zs h)
            subst hr
            exact hret H locs ls 54 hP hS dX3_spelling_54
          · have h := zif c5 h
            by_cases c6 : u1 = (5 : Int32)
            · have h := zit c6 h
              refine lv_tableIn (off := 54) (tgt := 55) hx hb dX3_spelling_1 (by rw [c6]; decide) (by rw [c6]; decide) (by rw [c6]; decide) (by decide) ?_
              refine va_ldcS hx hb hown (hE.2.2.2.2.2.1 5 (by decide)) dX3_spelling_55 ?_
              have hr := (zs h)
              subst hr
              exact hret H locs ls 57 hP hS dX3_spelling_57
            · have h := zif c6 h
              have hw : (u1).toInt < 0 ∨ 5 < (u1).toInt := by
                have e0 : (u1).toInt ≠ 0 := fun q => c1 (Int32.toInt_inj.mp q)
                have e1 : (u1).toInt ≠ 1 := fun q => c2 (Int32.toInt_inj.mp q)
                have e2 : (u1).toInt ≠ 2 := fun q => c3 (Int32.toInt_inj.mp q)
                have e3 : (u1).toInt ≠ 3 := fun q => c4 (Int32.toInt_inj.mp q)
                have e4 : (u1).toInt ≠ 4 := fun q => c5 (Int32.toInt_inj.mp q)
                have e5 : (u1).toInt ≠ 5 := fun q => c6 (Int32.toInt_inj.mp q)
                omega
              refine lv_tableOut (tgt := 58) hx hb dX3_spelling_1 hw (by decide) ?_
              refine va_ldcS hx hb hown (hE.2.2.2.2.2.1 6 (by decide)) dX3_spelling_58 ?_
              have hr := (zs h)
              subst hr
              exact hret H locs ls 60 hP hS dX3_spelling_60
set_option maxHeartbeats 4000000 in
set_option maxRecDepth 100000 in
theorem c_J0_coder_7d493 (l : Launch) (G : va_G) (k : Nat → ClassId) (tL tM : Nat) (sK sV : Nat → Nat) (sz : Nat) (u0 : Nat) (hi_u0 : u0 < 7) (out : Int32) (h : p_J0_coder_7d493 u0 = some out) : zMi l yJ0_coder_7d493 wsJ0_coder_7d493 0 0 G k tL tM sK sV [.ref (sK u0)] [] [] out sz := by
  refine z_metn (cc := cJ0_coder_7d493) (maxL := 1) (by decide) rfl (Nat.le_of_ble_eq_true rfl) ?_
  intro p e s m below meth c A Q H locs ls hx hb hml hts hown hA hK hE hret hP hD hS hl
  have hown : s.vm.findClass RJ0 = some m.cls := hown
  have hl : lv_has ls 1 [(0, .ref (sK u0))] := hl
  unfold p_J0_coder_7d493 at h
  refine va_gets (C := "java/lang/String") hx hb hE.2.2.2.2.2.2.2.1 hS hown (hts (.fieldLink RJ0 38 "java/lang/String" "COMPACT_STRINGS" "Z") (List.mem_of_getElem? (i := 1) rfl)) (fun _ h9 => h9) dJ0_coder_7d493_0 ?_
  refine lv_if_eq (tgt := 13) hx hb dJ0_coder_7d493_3 (by decide) (fun c1 => ?_) (fun c1 => ?_)
  · have h := zit c1 h
    refine lv_iconst (v := 1) hx hb dJ0_coder_7d493_13 (by decide) ?_
    have hr := (zs h)
    subst hr
    exact hret H locs ls 14 rfl hP hS dJ0_coder_7d493_14
  · have h := zif c1 h
    refine lv_aload_n hx hb dJ0_coder_7d493_6 rfl (lv_at hl 0 rfl) ?_
    refine vk_getf (o := "java/lang/String") hx hb (hE.2.2.2.2.2.2.1.1 u0 hi_u0).2.1 hS hown (hts (.fieldLink RJ0 15 "java/lang/String" "coder" "B") (List.mem_of_getElem? (i := 2) rfl)) (fun _ h9 => h9) dJ0_coder_7d493_7 ?_
    refine lv_goto (tgt := 14) hx hb dJ0_coder_7d493_10 (by decide) ?_
    have hr := (zs h)
    subst hr
    exact hret H locs ls 14 rfl hP hS dJ0_coder_7d493_14
set_option maxHeartbeats 4000000 in
set_option maxRecDepth 100000 in
theorem c_J0_length_8abf5 (l : Launch) (G : va_G) (k : Nat → ClassId) (tL tM : Nat) (sK sV : Nat → Nat) (sz : Nat) (u0 : Nat) (hi_u0 : u0 < 7) (out : Int32) (h : p_J0_length_8abf5 u0 = some out) : zMi l yJ0_length_8abf5 wsJ0_length_8abf5 1 20 G k tL tM sK sV [.ref (sK u0)] [] [] out sz := by
  refine z_meti (cc := cJ0_length_8abf5) (maxL := 1) (by decide) rfl (Nat.le_of_ble_eq_true rfl) ?_
  intro p e s m below meth c A Q H locs ls hx hb hml hts hown hA hK hE hret hP hD hS hl
  have hown : s.vm.findClass RJ0 = some m.cls := hown
  have hl : lv_has ls 1 [(0, .ref (sK u0))] := hl
  unfold p_J0_length_8abf5 at h
  refine lv_aload_n hx hb dJ0_length_8abf5_0 rfl (lv_at hl 0 rfl) ?_
  refine vk_getf (o := "java/lang/String") hx hb (hE.2.2.2.2.2.2.1.1 u0 hi_u0).2.2.1 hS hown (hts (.fieldLink RJ0 9 "java/lang/String" "value" "[B") (List.mem_of_getElem? (i := 1) rfl)) (fun _ h9 => h9) dJ0_length_8abf5_1 ?_
  refine va_tlen hx hb (hE.2.2.2.2.2.2.1.1 u0 hi_u0).2.2.2 hS rfl dJ0_length_8abf5_4 ?_
  refine lv_aload_n hx hb dJ0_length_8abf5_5 rfl (lv_at hl 0 rfl) ?_
  obtain ⟨o1, hv, h⟩ := zb h
  refine z_goi (w2 := []) [] (va_runV (As := []) (rest := [.int (Int32.ofNat (zln.getD u0 0))]) ⟨hx, hb, hml, hown, hts⟩ (c_J0_coder_7d493 l G k tL tM sK sV H.size u0 hi_u0 o1 hv) (cwV 0 hts gJ0_length_8abf5_J0_coder_7d493 rfl rfl rfl (by decide +kernel) ⟨Nat.le_of_ble_eq_true rfl, Nat.le_of_ble_eq_true rfl⟩) (z_preVs (wc := []) [] hi_u0 hK hE hA hP hD hS (by decide) rfl) rfl rfl hl.1 rfl (lv_room (Nat.le_of_ble_eq_true rfl)) dJ0_length_8abf5_6 ⟨Nat.le_refl _, Nat.le_refl _⟩) hA hP hD hS rfl rfl rfl rfl (fun H locs hP hD hS => ?_)
  refine lv_ishr hx hb dJ0_length_8abf5_9 ?_
  have hr := (zs h)
  subst hr
  exact hret H locs ls 10 hP hS dJ0_length_8abf5_10
set_option maxHeartbeats 4000000 in
set_option maxRecDepth 100000 in
theorem c_J0_isLatin1_aae02 (l : Launch) (G : va_G) (k : Nat → ClassId) (tL tM : Nat) (sK sV : Nat → Nat) (sz : Nat) (u0 : Nat) (hi_u0 : u0 < 7) (out : Int32) (h : p_J0_isLatin1_aae02 u0 = some out) : zMi l yJ0_isLatin1_aae02 wsJ0_isLatin1_aae02 0 0 G k tL tM sK sV [.ref (sK u0)] [] [] out sz := by
  refine z_metz (cc := cJ0_isLatin1_aae02) (maxL := 1) (by decide) rfl (Nat.le_of_ble_eq_true rfl) ?_
  intro p e s m below meth c A Q H locs ls hx hb hml hts hown hA hK hE hret hP hD hS hl
  have hown : s.vm.findClass RJ0 = some m.cls := hown
  have hl : lv_has ls 1 [(0, .ref (sK u0))] := hl
  unfold p_J0_isLatin1_aae02 at h
  refine va_gets (C := "java/lang/String") hx hb hE.2.2.2.2.2.2.2.1 hS hown (hts (.fieldLink RJ0 38 "java/lang/String" "COMPACT_STRINGS" "Z") (List.mem_of_getElem? (i := 1) rfl)) (fun _ h9 => h9) dJ0_isLatin1_aae02_0 ?_
  refine lv_if_eq (tgt := 17) hx hb dJ0_isLatin1_aae02_3 (by decide) (fun c2 => ?_) (fun c2 => ?_)
  · have h := zit c2 h
    refine lv_iconst (v := 0) hx hb dJ0_isLatin1_aae02_17 (by decide) ?_
    have hr := (zs h)
    subst hr
    exact hret H locs ls 18 (Or.inl rfl) hP hS dJ0_isLatin1_aae02_18
  · have h := zif c2 h
    refine lv_aload_n hx hb dJ0_isLatin1_aae02_6 rfl (lv_at hl 0 rfl) ?_
    refine vk_getf (o := "java/lang/String") hx hb (hE.2.2.2.2.2.2.1.1 u0 hi_u0).2.1 hS hown (hts (.fieldLink RJ0 15 "java/lang/String" "coder" "B") (List.mem_of_getElem? (i := 2) rfl)) (fun _ h9 => h9) dJ0_isLatin1_aae02_7 ?_
    refine lv_if_ne (tgt := 17) hx hb dJ0_isLatin1_aae02_10 (by decide) (fun c1 => ?_) (fun c1 => ?_)
    · have h := zif c1 h
      refine lv_iconst (v := 0) hx hb dJ0_isLatin1_aae02_17 (by decide) ?_
      have hr := (zs h)
      subst hr
      exact hret H locs ls 18 (Or.inl rfl) hP hS dJ0_isLatin1_aae02_18
    · have h := zit c1 h
      refine lv_iconst (v := 1) hx hb dJ0_isLatin1_aae02_13 (by decide) ?_
      refine lv_goto (tgt := 18) hx hb dJ0_isLatin1_aae02_14 (by decide) ?_
      have hr := (zs h)
      subst hr
      exact hret H locs ls 18 (Or.inr rfl) hP hS dJ0_isLatin1_aae02_18
set_option maxHeartbeats 4000000 in
set_option maxRecDepth 100000 in
theorem c_J3_checkIndex_8e157 (l : Launch) (G : va_G) (k : Nat → ClassId) (tL tM : Nat) (sK sV : Nat → Nat) (sz : Nat) (u1 : Int32) (u2 : Int32) (u3 : Option Nat) (out : Int32) (h : p_J3_checkIndex_8e157 u1 u2 = some out) : zMi l yJ3_checkIndex_8e157 wsJ3_checkIndex_8e157 0 0 G k tL tM sK sV [.int u1, .int u2, va_rf u3] [] [] out sz := by
  refine z_meti (cc := cJ3_checkIndex_8e157) (maxL := 3) (by decide) rfl (by cases u3 <;> exact Nat.le_of_ble_eq_true rfl) ?_
  intro p e s m below meth c A Q H locs ls hx hb hml hts hown hA hK hE hret hP hD hS hl
  have hown : s.vm.findClass RJ3 = some m.cls := hown
  have hl : lv_has ls 3 [(0, .int u1), (1, .int u2)] := lv_sub hl [0, 1] rfl
  unfold p_J3_checkIndex_8e157 at h
  refine lv_iload_n hx hb dJ3_checkIndex_8e157_0 rfl (lv_at hl 0 rfl) ?_
  refine lv_if_lt (tgt := 9) hx hb dJ3_checkIndex_8e157_1 (by decide) (fun c2 => ?_) (fun c2 => ?_)
  · have h := zit c2 h
    cases h
  · have h := zif c2 h
    refine lv_iload_n hx hb dJ3_checkIndex_8e157_4 rfl (lv_at hl 0 rfl) ?_
    refine lv_iload_n hx hb dJ3_checkIndex_8e157_5 rfl (lv_at hl 1 rfl) ?_
    refine lv_icmp_lt (tgt := 16) hx hb dJ3_checkIndex_8e157_6 (by decide) (fun c1 => ?_) (fun c1 => ?_)
    · have h := zit c1 h
      refine lv_iload_n hx hb dJ3_checkIndex_8e157_16 rfl (lv_at hl 0 rfl) ?_
      have hr := (zs h)
      subst hr
      exact hret H locs ls 17 hP hS dJ3_checkIndex_8e157_17
    · have h := zif c1 h
      cases h
set_option maxHeartbeats 4000000 in
set_option maxRecDepth 100000 in
theorem c_J0_checkIndex_df160 (l : Launch) (G : va_G) (k : Nat → ClassId) (tL tM : Nat) (sK sV : Nat → Nat) (sz : Nat) (u1 : Int32) (u2 : Int32) (out : Unit) (h : p_J0_checkIndex_df160 u1 u2 = some out) : zMv l yJ0_checkIndex_df160 wsJ0_checkIndex_df160 1 22 G k tL tM sK sV [.int u1, .int u2] [] [] sz := by
  refine z_metv (cc := cJ0_checkIndex_df160) (maxL := 2) (by decide) rfl (Nat.le_of_ble_eq_true rfl) ?_
  intro p e s m below meth c A Q H locs ls hx hb hml hts hown hA hK hE hret hP hD hS hl
  have hown : s.vm.findClass RJ0 = some m.cls := hown
  have hl : lv_has ls 2 [(0, .int u1), (1, .int u2)] := hl
  unfold p_J0_checkIndex_df160 at h
  refine lv_iload_n hx hb dJ0_checkIndex_df160_0 rfl (lv_at hl 0 rfl) ?_
  refine lv_iload_n hx hb dJ0_checkIndex_df160_1 rfl (lv_at hl 1 rfl) ?_
  obtain ⟨fq1, hZq⟩ : ∃ r, va_Z "jdk/internal/util/Preconditions" "SIOOBE_FORMATTER" "Ljava/util/function/BiFunction;" (va_rf r) A s s.heap := by
    rcases hE.2.2.2.2.2.2.2.2 with q | ⟨t, q⟩
    · exact ⟨none, q⟩
    · exact ⟨some t, q⟩
  refine va_gets hx hb hZq hS hown (hts (.fieldLink RJ0 1053 "jdk/internal/util/Preconditions" "SIOOBE_FORMATTER" "Ljava/util/function/BiFunction;") (List.mem_of_getElem? (i := 1) rfl)) (fun _ h9 => h9) dJ0_checkIndex_df160_2 ?_
  obtain ⟨o2, hv, h⟩ := zb h
  refine z_goi (w2 := []) [] (va_runS (As := [.int u1, .int u2, va_rf fq1]) (rest := []) ⟨hx, hb, hml, hown, hts⟩ (c_J3_checkIndex_8e157 l G k tL tM sK sV H.size u1 u2 fq1 o2 hv) (va_cwS 3 hts gJ0_checkIndex_df160_J3_checkIndex_8e157 rfl rfl rfl (by decide +kernel) ⟨Nat.le_of_ble_eq_true rfl, Nat.le_of_ble_eq_true rfl⟩) (z_preS (wc := []) [] hK hE hA hP hD hS (by decide) rfl) rfl rfl hl.1 rfl (lv_room (Nat.le_of_ble_eq_true rfl)) dJ0_checkIndex_df160_5 ⟨Nat.le_refl _, Nat.le_refl _⟩) hA hP hD hS rfl rfl rfl rfl (fun H locs hP hD hS => ?_)
  refine lv_pop hx hb dJ0_checkIndex_df160_8 rfl ?_
  have hr := (zs h)
  subst hr
  exact hret H locs ls 9 hP hS dJ0_checkIndex_df160_9
set_option maxHeartbeats 4000000 in
set_option maxRecDepth 100000 in
theorem c_J1_charAt_3b067 (l : Launch) (G : va_G) (k : Nat → ClassId) (tL tM : Nat) (sK sV : Nat → Nat) (sz : Nat) (u1 : Nat) (u2 : Int32) (hi_u1 : u1 < 7) (out : Int32) (h : p_J1_charAt_3b067 u1 u2 = some out) : zMi l yJ1_charAt_3b067 wsJ1_charAt_3b067 2 43 G k tL tM sK sV [.ref (sV u1), .int u2] [] [] out sz := by
  refine z_metn (cc := cJ1_charAt_3b067) (maxL := 2) (by decide) rfl (Nat.le_of_ble_eq_true rfl) ?_
  intro p e s m below meth c A Q H locs ls hx hb hml hts hown hA hK hE hret hP hD hS hl
  have hown : s.vm.findClass RJ1 = some m.cls := hown
  have hl : lv_has ls 2 [(0, .ref (sV u1)), (1, .int u2)] := hl
  unfold p_J1_charAt_3b067 at h
  refine lv_iload_n hx hb dJ1_charAt_3b067_0 rfl (lv_at hl 1 rfl) ?_
  refine lv_aload_n hx hb dJ1_charAt_3b067_1 rfl (lv_at hl 0 rfl) ?_
  refine va_tlen hx hb (hE.2.2.2.2.2.2.1.1 u1 hi_u1).2.2.2 hS rfl dJ1_charAt_3b067_2 ?_
  obtain ⟨o1, hv, h⟩ := zb h
  refine z_gov (w2 := []) [] (va_runS (As := [.int u2, .int (Int32.ofNat (zln.getD u1 0))]) (rest := []) ⟨hx, hb, hml, hown, hts⟩ (c_J0_checkIndex_df160 l G k tL tM sK sV H.size u2 (Int32.ofNat (zln.getD u1 0)) o1 hv) (va_cwS 2 hts gJ1_charAt_3b067_J0_checkIndex_df160 rfl rfl rfl (by decide +kernel) ⟨Nat.le_of_ble_eq_true rfl, Nat.le_of_ble_eq_true rfl⟩) (z_preS (wc := []) [] hK hE hA hP hD hS (by decide) rfl) rfl rfl hl.1 rfl (lv_room (Nat.le_of_ble_eq_true rfl)) dJ1_charAt_3b067_3 ⟨Nat.le_refl _, Nat.le_refl _⟩) hA hP hD hS rfl rfl rfl rfl (fun H locs hP hD hS => ?_)
  refine lv_aload_n hx hb dJ1_charAt_3b067_6 rfl (lv_at hl 0 rfl) ?_
  refine lv_iload_n hx hb dJ1_charAt_3b067_7 rfl (lv_at hl 1 rfl) ?_
  obtain ⟨v2, hv, h⟩ := zb h
  refine z_stb (g := z_sby u1) hx hb (hE.2.2.2.2.2.2.1.1 u1 hi_u1).2.2.2 hS hv dJ1_charAt_3b067_8 ?_
  refine lv_sipush (v := 255) hx hb dJ1_charAt_3b067_9 (by decide) ?_
  refine lv_iand hx hb dJ1_charAt_3b067_12 ?_
  refine lv_i2c (v := ((v2 &&& (255 : Int32)).toUInt32 % 65536).toInt32) hx hb dJ1_charAt_3b067_13 rfl ?_
  obtain ⟨v3, hv, h⟩ := zb h
  obtain ⟨hbit, hvv⟩ := z_chrS hv
  rw [hvv]
  have hr := (zs h)
  subst hr
  exact hret H locs ls 14 hbit hP hS dJ1_charAt_3b067_14
set_option maxHeartbeats 4000000 in
set_option maxRecDepth 100000 in
theorem c_J2_length_9d52b (l : Launch) (G : va_G) (k : Nat → ClassId) (tL tM : Nat) (sK sV : Nat → Nat) (sz : Nat) (u1 : Nat) (hi_u1 : u1 < 7) (out : Int32) (h : p_J2_length_9d52b u1 = some out) : zMi l yJ2_length_9d52b wsJ2_length_9d52b 0 0 G k tL tM sK sV [.ref (sV u1)] [] [] out sz := by
  refine z_meti (cc := cJ2_length_9d52b) (maxL := 1) (by decide) rfl (Nat.le_of_ble_eq_true rfl) ?_
  intro p e s m below meth c A Q H locs ls hx hb hml hts hown hA hK hE hret hP hD hS hl
  have hown : s.vm.findClass RJ2 = some m.cls := hown
  have hl : lv_has ls 1 [(0, .ref (sV u1))] := hl
  unfold p_J2_length_9d52b at h
  refine lv_aload_n hx hb dJ2_length_9d52b_0 rfl (lv_at hl 0 rfl) ?_
  refine va_tlen hx hb (hE.2.2.2.2.2.2.1.1 u1 hi_u1).2.2.2 hS rfl dJ2_length_9d52b_1 ?_
  refine lv_iconst (v := 1) hx hb dJ2_length_9d52b_2 (by decide) ?_
  refine lv_ishr hx hb dJ2_length_9d52b_3 ?_
  have hr := (zs h)
  subst hr
  exact hret H locs ls 4 hP hS dJ2_length_9d52b_4
set_option maxHeartbeats 4000000 in
set_option maxRecDepth 100000 in
theorem c_J2_checkIndex_2214a (l : Launch) (G : va_G) (k : Nat → ClassId) (tL tM : Nat) (sK sV : Nat → Nat) (sz : Nat) (u1 : Int32) (u2 : Nat) (hi_u2 : u2 < 7) (out : Unit) (h : p_J2_checkIndex_2214a u1 u2 = some out) : zMv l yJ2_checkIndex_2214a wsJ2_checkIndex_2214a 2 43 G k tL tM sK sV [.int u1, .ref (sV u2)] [] [] sz := by
  refine z_metv (cc := cJ2_checkIndex_2214a) (maxL := 2) (by decide) rfl (Nat.le_of_ble_eq_true rfl) ?_
  intro p e s m below meth c A Q H locs ls hx hb hml hts hown hA hK hE hret hP hD hS hl
  have hown : s.vm.findClass RJ2 = some m.cls := hown
  have hl : lv_has ls 2 [(0, .int u1), (1, .ref (sV u2))] := hl
  unfold p_J2_checkIndex_2214a at h
  refine lv_iload_n hx hb dJ2_checkIndex_2214a_0 rfl (lv_at hl 0 rfl) ?_
  refine lv_aload_n hx hb dJ2_checkIndex_2214a_1 rfl (lv_at hl 1 rfl) ?_
  obtain ⟨o1, hv, h⟩ := zb h
  refine z_goi (w2 := []) [] (va_runS (As := [.ref (sV u2)]) (rest := [.int u1]) ⟨hx, hb, hml, hown, hts⟩ (c_J2_length_9d52b l G k tL tM sK sV H.size u2 hi_u2 o1 hv) (va_cwS 1 hts gJ2_checkIndex_2214a_J2_length_9d52b rfl rfl rfl (by decide +kernel) ⟨Nat.le_of_ble_eq_true rfl, Nat.le_of_ble_eq_true rfl⟩) (z_preS (wc := []) [] hK hE hA hP hD hS (by decide) rfl) rfl rfl hl.1 rfl (lv_room (Nat.le_of_ble_eq_true rfl)) dJ2_checkIndex_2214a_2 ⟨Nat.le_refl _, Nat.le_refl _⟩) hA hP hD hS rfl rfl rfl rfl (fun H locs hP hD hS => ?_)
  obtain ⟨o2, hv, h⟩ := zb h
  refine z_gov (w2 := []) [] (va_runS (As := [.int u1, .int o1]) (rest := []) ⟨hx, hb, hml, hown, hts⟩ (c_J0_checkIndex_df160 l G k tL tM sK sV H.size u1 o1 o2 hv) (va_cwS 2 hts gJ2_checkIndex_2214a_J0_checkIndex_df160 rfl rfl rfl (by decide +kernel) ⟨Nat.le_of_ble_eq_true rfl, Nat.le_of_ble_eq_true rfl⟩) (z_preS (wc := []) [] hK hE hA hP hD hS (by decide) rfl) rfl rfl hl.1 rfl (lv_room (Nat.le_of_ble_eq_true rfl)) dJ2_checkIndex_2214a_5 ⟨Nat.le_refl _, Nat.le_refl _⟩) hA hP hD hS rfl rfl rfl rfl (fun H locs hP hD hS => ?_)
  have hr := (zs h)
  subst hr
  exact hret H locs ls 8 hP hS dJ2_checkIndex_2214a_8
set_option maxHeartbeats 4000000 in
set_option maxRecDepth 100000 in
theorem c_J0_charAt_5068e (l : Launch) (G : va_G) (k : Nat → ClassId) (tL tM : Nat) (sK sV : Nat → Nat) (sz : Nat) (u0 : Nat) (u1 : Int32) (hi_u0 : u0 < 7) (out : Int32) (h : p_J0_charAt_5068e u0 u1 = some out) : zMi l yJ0_charAt_5068e wsJ0_charAt_5068e 3 64 G k tL tM sK sV [.ref (sK u0), .int u1] [] [] out sz := by
  refine z_metn (cc := cJ0_charAt_5068e) (maxL := 2) (by decide) rfl (Nat.le_of_ble_eq_true rfl) ?_
  intro p e s m below meth c A Q H locs ls hx hb hml hts hown hA hK hE hret hP hD hS hl
  have hown : s.vm.findClass RJ0 = some m.cls := hown
  have hl : lv_has ls 2 [(0, .ref (sK u0)), (1, .int u1)] := hl
  unfold p_J0_charAt_5068e at h
  refine lv_aload_n hx hb dJ0_charAt_5068e_0 rfl (lv_at hl 0 rfl) ?_
  obtain ⟨o1, hv, h⟩ := zb h
  refine z_goi (w2 := []) [] (va_runV (As := []) (rest := []) ⟨hx, hb, hml, hown, hts⟩ (c_J0_isLatin1_aae02 l G k tL tM sK sV H.size u0 hi_u0 o1 hv) (cwV 0 hts gJ0_charAt_5068e_J0_isLatin1_aae02 rfl rfl rfl (by decide +kernel) ⟨Nat.le_of_ble_eq_true rfl, Nat.le_of_ble_eq_true rfl⟩) (z_preVs (wc := []) [] hi_u0 hK hE hA hP hD hS (by decide) rfl) rfl rfl hl.1 rfl (lv_room (Nat.le_of_ble_eq_true rfl)) dJ0_charAt_5068e_1 ⟨Nat.le_refl _, Nat.le_refl _⟩) hA hP hD hS rfl rfl rfl rfl (fun H locs hP hD hS => ?_)
  refine lv_if_eq (tgt := 16) hx hb dJ0_charAt_5068e_4 (by decide) (fun c4 => ?_) (fun c4 => ?_)
  · have h := zit c4 h
    cases h
  · have h := zif c4 h
    refine lv_aload_n hx hb dJ0_charAt_5068e_7 rfl (lv_at hl 0 rfl) ?_
    refine vk_getf (o := "java/lang/String") hx hb (hE.2.2.2.2.2.2.1.1 u0 hi_u0).2.2.1 hS hown (hts (.fieldLink RJ0 9 "java/lang/String" "value" "[B") (List.mem_of_getElem? (i := 1) rfl)) (fun _ h9 => h9) dJ0_charAt_5068e_8 ?_
    refine lv_iload_n hx hb dJ0_charAt_5068e_11 rfl (lv_at hl 1 rfl) ?_
    obtain ⟨o2, hv, h⟩ := zb h
    refine z_goi (w2 := []) [] (va_runS (As := [.ref (sV u0), .int u1]) (rest := []) ⟨hx, hb, hml, hown, hts⟩ (c_J1_charAt_3b067 l G k tL tM sK sV H.size u0 u1 hi_u0 o2 hv) (va_cwS 2 hts gJ0_charAt_5068e_J1_charAt_3b067 rfl rfl rfl (by decide +kernel) ⟨Nat.le_of_ble_eq_true rfl, Nat.le_of_ble_eq_true rfl⟩) (z_preS (wc := []) [] hK hE hA hP hD hS (by decide) rfl) rfl rfl hl.1 rfl (lv_room (Nat.le_of_ble_eq_true rfl)) dJ0_charAt_5068e_12 ⟨Nat.le_refl _, Nat.le_refl _⟩) hA hP hD hS rfl rfl rfl rfl (fun H locs hP hD hS => ?_)
    obtain ⟨v3, hv, h⟩ := zb h
    obtain ⟨hbit, hvv⟩ := z_chrS hv
    rw [hvv]
    have hr := (zs h)
    subst hr
    exact hret H locs ls 15 hbit hP hS dJ0_charAt_5068e_15
theorem iw_X3_tokenSays_X3 : ∀ w ∈ wsX30, w ∈ wsX3_tokenSays := fun _ h => List.mem_cons_of_mem _ (List.mem_append_right _ h)
set_option maxHeartbeats 4000000 in
set_option maxRecDepth 100000 in
theorem c_X3_tokenSays (l : Launch) (G : va_G) (k : Nat → ClassId) (tL tM : Nat) (sK sV : Nat → Nat) (a_p : Nat) (a_p_bytes : Nat) (sz : Nat) (p_length : Int32) (p_place : Int32) (p_token : Int32) (p_tokenPlace : Int32) (p_number : Int32) (p_told : Int32) (p_fault : Int32) (p_faultPlace : Int32) (p_bytes : Nat → Int32) (u1 : Nat) (hi_u1 : u1 < 7) (out : Int32) (h : p_X3_tokenSays u1 p_place p_tokenPlace p_bytes = some out) : zMi l yX3_tokenSays wsX3_tokenSays 4 85 G k tL tM sK sV [.ref a_p, .ref (sK u1)] [(a_p, .inr (3, [.ref a_p_bytes, .int p_length, .int p_place, .int p_token, .int p_tokenPlace, .int p_number, .int p_told, .int p_fault, .int p_faultPlace])), (a_p_bytes, .inl (k 1, 160, .inl p_bytes))] [(a_p, .inr (3, [.ref a_p_bytes, .int p_length, .int p_place, .int p_token, .int p_tokenPlace, .int p_number, .int p_told, .int p_fault, .int p_faultPlace])), (a_p_bytes, .inl (k 1, 160, .inl p_bytes))] out sz := by
  refine z_metz (cc := cX3_tokenSays) (maxL := 3) (by decide) rfl (Nat.le_of_ble_eq_true rfl) ?_
  intro p e s m below meth c A Q H locs ls hx hb hml hts hown hA hK hE hret hP hD hS hl
  have hown : s.vm.findClass RX3 = some m.cls := hown
  have hl : lv_has ls 3 [(0, .ref a_p), (1, .ref (sK u1))] := hl
  unfold p_X3_tokenSays at h
  refine lv_aload_n hx hb dX3_tokenSays_0 rfl (lv_at hl 0 rfl) ?_
  refine va_get (D := G) (ci := 3) (v := .int p_place) (C := RX3) (T := TX3) (N := 9) hx hb hts iw_X3_tokenSays_X3 hown hK hP 0 rfl rfl 2 (by decide) (hts (.fieldLink RX3 19 "SpireLean$Tape" "place" "I") (List.mem_of_getElem? (i := 1) rfl)) (fun _ h9 => h9) rfl dX3_tokenSays_1 ?_
  refine lv_aload_n hx hb dX3_tokenSays_4 rfl (lv_at hl 0 rfl) ?_
  refine va_get (D := G) (ci := 3) (v := .int p_tokenPlace) (C := RX3) (T := TX3) (N := 9) hx hb hts iw_X3_tokenSays_X3 hown hK hP 0 rfl rfl 4 (by decide) (hts (.fieldLink RX3 99 "SpireLean$Tape" "tokenPlace" "I") (List.mem_of_getElem? (i := 2) rfl)) (fun _ h9 => h9) rfl dX3_tokenSays_5 ?_
  refine lv_isub hx hb dX3_tokenSays_8 ?_
  refine lv_aload_n hx hb dX3_tokenSays_9 rfl (lv_at hl 1 rfl) ?_
  obtain ⟨o1, hv, h⟩ := zb h
  refine z_goi (w2 := [(a_p, .inr (3, [.ref a_p_bytes, .int p_length, .int p_place, .int p_token, .int p_tokenPlace, .int p_number, .int p_told, .int p_fault, .int p_faultPlace])), (a_p_bytes, .inl (k 1, 160, .inl p_bytes))]) [] (va_runV (As := []) (rest := [.int (p_place - p_tokenPlace)]) ⟨hx, hb, hml, hown, hts⟩ (c_J0_length_8abf5 l G k tL tM sK sV H.size u1 hi_u1 o1 hv) (cwV 0 hts gX3_tokenSays_J0_length_8abf5 rfl rfl rfl (by decide +kernel) ⟨Nat.le_of_ble_eq_true rfl, Nat.le_of_ble_eq_true rfl⟩) (z_preVs (wc := []) [] hi_u1 hK hE hA hP hD hS (by decide) rfl) rfl rfl hl.1 rfl (lv_room (Nat.le_of_ble_eq_true rfl)) dX3_tokenSays_10 ⟨Nat.le_refl _, Nat.le_refl _⟩) hA hP hD hS rfl rfl rfl rfl (fun H locs hP hD hS => ?_)
  refine lv_icmp_eq (tgt := 18) hx hb dX3_tokenSays_13 (by decide) (fun c14 => ?_) (fun c14 => ?_)
  · have h := zit c14 h
    refine lv_iconst (v := 0) hx hb dX3_tokenSays_18 (by decide) ?_
    refine lv_istore_n (lv' := [(2, .int (0 : Int32)), (0, .ref a_p), (1, .ref (sK u1))]) hx hb dX3_tokenSays_19 rfl hl (by decide) rfl (fun ls hl => ?_)
    obtain ⟨e7, hv, h⟩ := zb h
    have hJ5 : ∀ (x : Int32), .inl x = e7 → x = out := fun x hz => (zs (zpeel_0_2 hz h))
    have hJ6 : ∀ (v8 : Unit), .inr v8 = e7 → zW p l e (zR 4 85) s m ([.ref a_p, .ref (sK u1)] : List Value).toArray below meth c Q 3 A G [(a_p, .inr (3, [.ref a_p_bytes, .int p_length, .int p_place, .int p_token, .int p_tokenPlace, .int p_number, .int p_told, .int p_fault, .int p_faultPlace])), (a_p_bytes, .inl (k 1, 160, .inl p_bytes))] [] 55 [] := by
      intro v8 hz
      have h := (zpeel_1_2 hz h)
      intro H locs ls hP hD hS hl
      refine lv_iconst (v := 1) hx hb dX3_tokenSays_55 (by decide) ?_
      have hr := (zs h)
      subst hr
      exact hret H locs ls 56 (Or.inr rfl) hP hS dX3_tokenSays_56
    refine z_lpW (Wh := fun (x2 : Int32) => zW p l e (zR 4 85) s m ([.ref a_p, .ref (sK u1)] : List Value).toArray below meth c Q 3 A G [(a_p, .inr (3, [.ref a_p_bytes, .int p_length, .int p_place, .int p_token, .int p_tokenPlace, .int p_number, .int p_told, .int p_fault, .int p_faultPlace])), (a_p_bytes, .inl (k 1, 160, .inl p_bytes))] [(0, .ref a_p), (1, .ref (sK u1)), (2, .int x2)] 20 []) ?_ 1000 _ hv H locs ls hP hD hS (lv_sub hl [1, 2, 0] rfl)
    clear h
    intro x2 o h hC3 hX4 H locs ls hP hD hS hl
    unfold p_X3_tokenSays_b20 at h
    refine lv_iload_n hx hb dX3_tokenSays_20 rfl (lv_at hl 2 rfl) ?_
    refine lv_aload_n hx hb dX3_tokenSays_21 rfl (lv_at hl 1 rfl) ?_
    obtain ⟨o9, hv, h⟩ := zb h
    refine z_goi (w2 := [(a_p, .inr (3, [.ref a_p_bytes, .int p_length, .int p_place, .int p_token, .int p_tokenPlace, .int p_number, .int p_told, .int p_fault, .int p_faultPlace])), (a_p_bytes, .inl (k 1, 160, .inl p_bytes))]) [] (va_runV (As := []) (rest := [.int x2]) ⟨hx, hb, hml, hown, hts⟩ (c_J0_length_8abf5 l G k tL tM sK sV H.size u1 hi_u1 o9 hv) (cwV 0 hts gX3_tokenSays_J0_length_8abf5 rfl rfl rfl (by decide +kernel) ⟨Nat.le_of_ble_eq_true rfl, Nat.le_of_ble_eq_true rfl⟩) (z_preVs (wc := []) [] hi_u1 hK hE hA hP hD hS (by decide) rfl) rfl rfl hl.1 rfl (lv_room (Nat.le_of_ble_eq_true rfl)) dX3_tokenSays_22 ⟨Nat.le_refl _, Nat.le_refl _⟩) hA hP hD hS rfl rfl rfl rfl (fun H locs hP hD hS => ?_)
    refine lv_icmp_ge (tgt := 55) hx hb dX3_tokenSays_25 (by decide) (fun c13 => ?_) (fun c13 => ?_)
    · have h := zit c13 h
      exact hJ6 _ (hX4 _ (zs h)) H locs ls hP hD hS (lv_sub hl [] rfl)
    · have h := zif c13 h
      refine lv_aload_n hx hb dX3_tokenSays_28 rfl (lv_at hl 0 rfl) ?_
      refine va_get (D := G) (ci := 3) (v := .ref a_p_bytes) (C := RX3) (T := TX3) (N := 9) hx hb hts iw_X3_tokenSays_X3 hown hK hP 0 rfl rfl 0 (by decide) (hts (.fieldLink RX3 11 "SpireLean$Tape" "bytes" "[B") (List.mem_of_getElem? (i := 3) rfl)) (fun _ h9 => h9) rfl dX3_tokenSays_29 ?_
      refine lv_aload_n hx hb dX3_tokenSays_32 rfl (lv_at hl 0 rfl) ?_
      refine va_get (D := G) (ci := 3) (v := .int p_tokenPlace) (C := RX3) (T := TX3) (N := 9) hx hb hts iw_X3_tokenSays_X3 hown hK hP 0 rfl rfl 4 (by decide) (hts (.fieldLink RX3 99 "SpireLean$Tape" "tokenPlace" "I") (List.mem_of_getElem? (i := 2) rfl)) (fun _ h9 => h9) rfl dX3_tokenSays_33 ?_
      refine lv_iload_n hx hb dX3_tokenSays_36 rfl (lv_at hl 2 rfl) ?_
      refine lv_iadd hx hb dX3_tokenSays_37 ?_
      obtain ⟨v10, hv, h⟩ := zb h
      refine z_bald hx hb hK hP 1 1 rfl rfl hv dX3_tokenSays_38 ?_
      refine lv_aload_n hx hb dX3_tokenSays_39 rfl (lv_at hl 1 rfl) ?_
      refine lv_iload_n hx hb dX3_tokenSays_40 rfl (lv_at hl 2 rfl) ?_
      obtain ⟨o11, hv, h⟩ := zb h
      refine z_goi (w2 := [(a_p, .inr (3, [.ref a_p_bytes, .int p_length, .int p_place, .int p_token, .int p_tokenPlace, .int p_number, .int p_told, .int p_fault, .int p_faultPlace])), (a_p_bytes, .inl (k 1, 160, .inl p_bytes))]) [] (va_runV (As := [.int x2]) (rest := [.int v10]) ⟨hx, hb, hml, hown, hts⟩ (c_J0_charAt_5068e l G k tL tM sK sV H.size u1 x2 hi_u1 o11 hv) (cwV 1 hts gX3_tokenSays_J0_charAt_5068e rfl rfl rfl (by decide +kernel) ⟨Nat.le_of_ble_eq_true rfl, Nat.le_of_ble_eq_true rfl⟩) (z_preVs (wc := []) [] hi_u1 hK hE hA hP hD hS (by decide) rfl) rfl rfl hl.1 rfl (lv_room (Nat.le_of_ble_eq_true rfl)) dX3_tokenSays_41 ⟨Nat.le_refl _, Nat.le_refl _⟩) hA hP hD hS rfl rfl rfl rfl (fun H locs hP hD hS => ?_)
      refine lv_icmp_eq (tgt := 49) hx hb dX3_tokenSays_44 (by decide) (fun c12 => ?_) (fun c12 => ?_)
      · have h := zit c12 h
        refine lv_iinc (v := x2 + (1 : Int32)) (lv' := [(2, .int (x2 + (1 : Int32))), (0, .ref a_p), (1, .ref (sK u1))]) hx hb dX3_tokenSays_49 hl (k := 2) rfl rfl (by decide) rfl (fun ls hl => ?_)
        refine lv_goto (tgt := 20) hx hb dX3_tokenSays_52 (by decide) ?_
        exact hC3 _ (zs h) H locs ls hP hD hS (lv_sub hl [1, 2, 0] rfl)
      · have h := zif c12 h
        refine lv_iconst (v := 0) hx hb dX3_tokenSays_47 (by decide) ?_
        have hr := (hJ5 _ (hX4 _ (zs h)))
        subst hr
        exact hret H locs ls 48 (Or.inl rfl) hP hS dX3_tokenSays_48
  · have h := zif c14 h
    refine lv_iconst (v := 0) hx hb dX3_tokenSays_16 (by decide) ?_
    have hr := (zs h)
    subst hr
    exact hret H locs ls 17 (Or.inl rfl) hP hS dX3_tokenSays_17
theorem iw_X3_wordOfToken_X3 : ∀ w ∈ wsX30, w ∈ wsX3_wordOfToken := fun _ h => List.mem_cons_of_mem _ (List.mem_append_right _ h)
set_option maxHeartbeats 4000000 in
set_option maxRecDepth 100000 in
theorem c_X3_wordOfToken (l : Launch) (G : va_G) (k : Nat → ClassId) (tL tM : Nat) (sK sV : Nat → Nat) (a_p : Nat) (a_p_bytes : Nat) (sz : Nat) (p_length : Int32) (p_place : Int32) (p_token : Int32) (p_tokenPlace : Int32) (p_number : Int32) (p_told : Int32) (p_fault : Int32) (p_faultPlace : Int32) (p_bytes : Nat → Int32) (out : Int32) (h : p_X3_wordOfToken p_place p_token p_tokenPlace p_bytes = some out) : zMi l yX3_wordOfToken wsX3_wordOfToken 5 107 G k tL tM sK sV [.ref a_p] [(a_p, .inr (3, [.ref a_p_bytes, .int p_length, .int p_place, .int p_token, .int p_tokenPlace, .int p_number, .int p_told, .int p_fault, .int p_faultPlace])), (a_p_bytes, .inl (k 1, 160, .inl p_bytes))] [(a_p, .inr (3, [.ref a_p_bytes, .int p_length, .int p_place, .int p_token, .int p_tokenPlace, .int p_number, .int p_told, .int p_fault, .int p_faultPlace])), (a_p_bytes, .inl (k 1, 160, .inl p_bytes))] out sz := by
  refine z_meti (cc := cX3_wordOfToken) (maxL := 2) (by decide) rfl (Nat.le_of_ble_eq_true rfl) ?_
  intro p e s m below meth c A Q H locs ls hx hb hml hts hown hA hK hE hret hP hD hS hl
  have hown : s.vm.findClass RX3 = some m.cls := hown
  have hl : lv_has ls 2 [(0, .ref a_p)] := hl
  unfold p_X3_wordOfToken at h
  refine lv_aload_n hx hb dX3_wordOfToken_0 rfl (lv_at hl 0 rfl) ?_
  refine va_get (D := G) (ci := 3) (v := .int p_token) (C := RX3) (T := TX3) (N := 9) hx hb hts iw_X3_wordOfToken_X3 hown hK hP 0 rfl rfl 3 (by decide) (hts (.fieldLink RX3 34 "SpireLean$Tape" "token" "I") (List.mem_of_getElem? (i := 1) rfl)) (fun _ h9 => h9) rfl dX3_wordOfToken_1 ?_
  refine lv_iconst (v := 1) hx hb dX3_wordOfToken_4 (by decide) ?_
  refine lv_icmp_eq (tgt := 11) hx hb dX3_wordOfToken_5 (by decide) (fun c13 => ?_) (fun c13 => ?_)
  · have h := zit c13 h
    refine lv_iconst (v := 0) hx hb dX3_wordOfToken_11 (by decide) ?_
    refine lv_istore_n (lv' := [(1, .int (0 : Int32)), (0, .ref a_p)]) hx hb dX3_wordOfToken_12 rfl hl (by decide) rfl (fun ls hl => ?_)
    obtain ⟨e6, hv, h⟩ := zb h
    have hJ4 : ∀ (x : Int32), .inl x = e6 → x = out := fun x hz => (zs (zpeel_0_2 hz h))
    have hJ5 : ∀ (v7 : Unit), .inr v7 = e6 → zW p l e (zR 5 107) s m ([.ref a_p] : List Value).toArray below meth c Q 2 A G [(a_p, .inr (3, [.ref a_p_bytes, .int p_length, .int p_place, .int p_token, .int p_tokenPlace, .int p_number, .int p_told, .int p_fault, .int p_faultPlace])), (a_p_bytes, .inl (k 1, 160, .inl p_bytes))] [] 38 [] := by
      intro v7 hz
      have h := (zpeel_1_2 hz h)
      intro H locs ls hP hD hS hl
      refine lv_bipush (v := (-4)) hx hb dX3_wordOfToken_38 (by decide) ?_
      have hr := (zs h)
      subst hr
      exact hret H locs ls 40 hP hS dX3_wordOfToken_40
    refine z_lpW (Wh := fun (x1 : Int32) => zW p l e (zR 5 107) s m ([.ref a_p] : List Value).toArray below meth c Q 2 A G [(a_p, .inr (3, [.ref a_p_bytes, .int p_length, .int p_place, .int p_token, .int p_tokenPlace, .int p_number, .int p_told, .int p_fault, .int p_faultPlace])), (a_p_bytes, .inl (k 1, 160, .inl p_bytes))] [(0, .ref a_p), (1, .int x1)] 13 []) ?_ 1000 _ hv H locs ls hP hD hS (lv_sub hl [1, 0] rfl)
    clear h
    intro x1 o h hC2 hX3 H locs ls hP hD hS hl
    unfold p_X3_wordOfToken_b13 at h
    refine lv_iload_n hx hb dX3_wordOfToken_13 rfl (lv_at hl 1 rfl) ?_
    refine lv_bipush (v := 7) hx hb dX3_wordOfToken_14 (by decide) ?_
    refine lv_icmp_ge (tgt := 38) hx hb dX3_wordOfToken_16 (by decide) (fun c12 => ?_) (fun c12 => ?_)
    · have h := zit c12 h
      exact hJ5 _ (hX3 _ (zs h)) H locs ls hP hD hS (lv_sub hl [] rfl)
    · have h := zif c12 h
      refine lv_aload_n hx hb dX3_wordOfToken_19 rfl (lv_at hl 0 rfl) ?_
      refine lv_iload_n hx hb dX3_wordOfToken_20 rfl (lv_at hl 1 rfl) ?_
      obtain ⟨o8, hv, h⟩ := zb h
      refine z_gos (w2 := [(a_p, .inr (3, [.ref a_p_bytes, .int p_length, .int p_place, .int p_token, .int p_tokenPlace, .int p_number, .int p_told, .int p_fault, .int p_faultPlace])), (a_p_bytes, .inl (k 1, 160, .inl p_bytes))]) [] (va_runS (As := [.int x1]) (rest := [.ref a_p]) ⟨hx, hb, hml, hown, hts⟩ (c_X3_spelling l G k tL tM sK sV H.size x1 o8 hv) (va_cwS 1 hts gX3_wordOfToken_X3_spelling rfl rfl rfl (by decide +kernel) ⟨Nat.le_of_ble_eq_true rfl, Nat.le_of_ble_eq_true rfl⟩) (z_preS (wc := []) [] hK hE hA hP hD hS (by decide) rfl) rfl rfl hl.1 rfl (lv_room (Nat.le_of_ble_eq_true rfl)) dX3_wordOfToken_21 ⟨Nat.le_refl _, Nat.le_refl _⟩) hA hP hD hS rfl rfl rfl rfl (fun H locs hP hD hS => ?_)
      by_cases c9 : o8 < 7
      rotate_left
      · have h := zif c9 h
        cases h
      have h := zit c9 h
      obtain ⟨o10, hv, h⟩ := zb h
      refine z_goi (w2 := [(a_p, .inr (3, [.ref a_p_bytes, .int p_length, .int p_place, .int p_token, .int p_tokenPlace, .int p_number, .int p_told, .int p_fault, .int p_faultPlace])), (a_p_bytes, .inl (k 1, 160, .inl p_bytes))]) [0, 1] (va_runV (As := [.ref (sK o8)]) (rest := []) ⟨hx, hb, hml, hown, hts⟩ (c_X3_tokenSays l G k tL tM sK sV a_p a_p_bytes H.size p_length p_place p_token p_tokenPlace p_number p_told p_fault p_faultPlace p_bytes o8 c9 o10 hv) (cwV 1 hts gX3_wordOfToken_X3_tokenSays rfl rfl rfl (by decide +kernel) ⟨Nat.le_of_ble_eq_true rfl, Nat.le_of_ble_eq_true rfl⟩) (z_preV (wc := [(a_p, .inr (3, [.ref a_p_bytes, .int p_length, .int p_place, .int p_token, .int p_tokenPlace, .int p_number, .int p_told, .int p_fault, .int p_faultPlace])), (a_p_bytes, .inl (k 1, 160, .inl p_bytes))]) [0, 1] 0 3 hK hE hA hP hD hS (by decide) rfl rfl rfl) rfl rfl hl.1 rfl (lv_room (Nat.le_of_ble_eq_true rfl)) dX3_wordOfToken_24 ⟨Nat.le_refl _, Nat.le_refl _⟩) hA hP hD hS rfl rfl rfl rfl (fun H locs hP hD hS => ?_)
      refine lv_if_eq (tgt := 32) hx hb dX3_wordOfToken_27 (by decide) (fun c11 => ?_) (fun c11 => ?_)
      · have h := zit c11 h
        refine lv_iinc (v := x1 + (1 : Int32)) (lv' := [(1, .int (x1 + (1 : Int32))), (0, .ref a_p)]) hx hb dX3_wordOfToken_32 hl (k := 1) rfl rfl (by decide) rfl (fun ls hl => ?_)
        refine lv_goto (tgt := 13) hx hb dX3_wordOfToken_35 (by decide) ?_
        exact hC2 _ (zs h) H locs ls hP hD hS (lv_sub hl [1, 0] rfl)
      · have h := zif c11 h
        refine lv_iload_n hx hb dX3_wordOfToken_30 rfl (lv_at hl 1 rfl) ?_
        have hr := (hJ4 _ (hX3 _ (zs h)))
        subst hr
        exact hret H locs ls 31 hP hS dX3_wordOfToken_31
  · have h := zif c13 h
    refine lv_bipush (v := (-4)) hx hb dX3_wordOfToken_8 (by decide) ?_
    have hr := (zs h)
    subst hr
    exact hret H locs ls 10 hP hS dX3_wordOfToken_10
theorem iw_X3_expectNumber_X3 : ∀ w ∈ wsX30, w ∈ wsX3_expectNumber := fun _ h => List.mem_cons_of_mem _ (List.mem_append_right _ h)
set_option maxHeartbeats 4000000 in
set_option maxRecDepth 100000 in
theorem c_X3_expectNumber (l : Launch) (G : va_G) (k : Nat → ClassId) (tL tM : Nat) (sK sV : Nat → Nat) (a_p : Nat) (a_p_bytes : Nat) (sz : Nat) (p_length : Int32) (p_place : Int32) (p_token : Int32) (p_tokenPlace : Int32) (p_number : Int32) (p_told : Int32) (p_fault : Int32) (p_faultPlace : Int32) (p_bytes : Nat → Int32) (u1 : Int32) (u2 : Int32) (out : Int32 × Int32 × Int32 × Int32 × Int32 × Int32 × Int32) (h : p_X3_expectNumber u1 u2 p_length p_place p_token p_tokenPlace p_number p_fault p_faultPlace p_bytes = some out) : zMi l yX3_expectNumber wsX3_expectNumber 3 61 G k tL tM sK sV [.ref a_p, .int u1, .int u2] [(a_p, .inr (3, [.ref a_p_bytes, .int p_length, .int p_place, .int p_token, .int p_tokenPlace, .int p_number, .int p_told, .int p_fault, .int p_faultPlace])), (a_p_bytes, .inl (k 1, 160, .inl p_bytes))] [(a_p, .inr (3, [.ref a_p_bytes, .int p_length, .int out.2.1, .int out.2.2.1, .int out.2.2.2.1, .int out.2.2.2.2.1, .int p_told, .int out.2.2.2.2.2.1, .int out.2.2.2.2.2.2])), (a_p_bytes, .inl (k 1, 160, .inl p_bytes))] out.1 sz := by
  refine z_meti (cc := cX3_expectNumber) (maxL := 3) (by decide) rfl (Nat.le_of_ble_eq_true rfl) ?_
  intro p e s m below meth c A Q H locs ls hx hb hml hts hown hA hK hE hret hP hD hS hl
  have hown : s.vm.findClass RX3 = some m.cls := hown
  have hl : lv_has ls 3 [(0, .ref a_p), (1, .int u1), (2, .int u2)] := hl
  unfold p_X3_expectNumber at h
  refine lv_aload_n hx hb dX3_expectNumber_0 rfl (lv_at hl 0 rfl) ?_
  obtain ⟨o1, hv, h⟩ := zb h
  refine z_gov (w2 := [(a_p, .inr (3, [.ref a_p_bytes, .int p_length, .int o1.1, .int o1.2.1, .int o1.2.2.1, .int o1.2.2.2.1, .int p_told, .int o1.2.2.2.2.1, .int o1.2.2.2.2.2])), (a_p_bytes, .inl (k 1, 160, .inl p_bytes))]) [0, 1] (va_runV (As := []) (rest := []) ⟨hx, hb, hml, hown, hts⟩ (c_X3_readToken l G k tL tM sK sV a_p a_p_bytes H.size p_length p_place p_token p_tokenPlace p_number p_told p_fault p_faultPlace p_bytes o1 hv) (cwV 0 hts gX3_expectNumber_X3_readToken rfl rfl rfl (by decide +kernel) ⟨Nat.le_of_ble_eq_true rfl, Nat.le_of_ble_eq_true rfl⟩) (z_preV (wc := [(a_p, .inr (3, [.ref a_p_bytes, .int p_length, .int p_place, .int p_token, .int p_tokenPlace, .int p_number, .int p_told, .int p_fault, .int p_faultPlace])), (a_p_bytes, .inl (k 1, 160, .inl p_bytes))]) [0, 1] 0 3 hK hE hA hP hD hS (by decide) rfl rfl rfl) rfl rfl hl.1 rfl (lv_room (Nat.le_of_ble_eq_true rfl)) dX3_expectNumber_1 ⟨Nat.le_refl _, Nat.le_refl _⟩) hA hP hD hS rfl rfl rfl rfl (fun H locs hP hD hS => ?_)
  refine lv_aload_n hx hb dX3_expectNumber_4 rfl (lv_at hl 0 rfl) ?_
  refine va_get (D := G) (ci := 3) (v := .int o1.2.1) (C := RX3) (T := TX3) (N := 9) hx hb hts iw_X3_expectNumber_X3 hown hK hP 0 rfl rfl 3 (by decide) (hts (.fieldLink RX3 34 "SpireLean$Tape" "token" "I") (List.mem_of_getElem? (i := 1) rfl)) (fun _ h9 => h9) rfl dX3_expectNumber_5 ?_
  refine lv_iconst (v := 2) hx hb dX3_expectNumber_8 (by decide) ?_
  refine lv_icmp_eq (tgt := 20) hx hb dX3_expectNumber_9 (by decide) (fun c6 => ?_) (fun c6 => ?_)
  · have h := zit c6 h
    refine lv_aload_n hx hb dX3_expectNumber_20 rfl (lv_at hl 0 rfl) ?_
    refine va_get (D := G) (ci := 3) (v := .int o1.2.2.2.1) (C := RX3) (T := TX3) (N := 9) hx hb hts iw_X3_expectNumber_X3 hown hK hP 0 rfl rfl 5 (by decide) (hts (.fieldLink RX3 92 "SpireLean$Tape" "number" "I") (List.mem_of_getElem? (i := 2) rfl)) (fun _ h9 => h9) rfl dX3_expectNumber_21 ?_
    refine lv_iload_n hx hb dX3_expectNumber_24 rfl (lv_at hl 1 rfl) ?_
    refine lv_iload_n hx hb dX3_expectNumber_25 rfl (lv_at hl 2 rfl) ?_
    obtain ⟨o2, hv, h⟩ := zb h
    refine z_goi (w2 := [(a_p, .inr (3, [.ref a_p_bytes, .int p_length, .int o1.1, .int o1.2.1, .int o1.2.2.1, .int o1.2.2.2.1, .int p_told, .int o1.2.2.2.2.1, .int o1.2.2.2.2.2])), (a_p_bytes, .inl (k 1, 160, .inl p_bytes))]) [] (va_runSN (As := [.int o1.2.2.2.1, .int u1, .int u2]) (rest := []) ⟨hx, hb, hml, hown, hts⟩ (c_X5_within l G k tL tM sK sV H.size o1.2.2.2.1 u1 u2 o2 hv) ⟨va_cnB 3 hts gX3_expectNumber_X5_within_n95 rfl rfl rfl (hE.1 (.methodLinkNest RX3 95 yX5_within "SpireLean") (List.mem_of_getElem? (i := 33) rfl)) (hts (.initialized RX5) (List.mem_of_getElem? (i := 33) rfl)) (by decide +kernel) ⟨Nat.le_of_ble_eq_true rfl, Nat.le_of_ble_eq_true rfl⟩, (hts (.static yX5_within) (List.mem_of_getElem? (i := 32) rfl)), trivial⟩ (z_preS (wc := []) [] hK hE hA hP hD hS (by decide) rfl) rfl rfl hl.1 rfl (lv_room (Nat.le_of_ble_eq_true rfl)) dX3_expectNumber_26 ⟨Nat.le_refl _, Nat.le_refl _⟩) hA hP hD hS rfl rfl rfl rfl (fun H locs hP hD hS => ?_)
    refine lv_if_ne (tgt := 37) hx hb dX3_expectNumber_29 (by decide) (fun c4 => ?_) (fun c4 => ?_)
    · have h := zif c4 h
      refine lv_aload_n hx hb dX3_expectNumber_37 rfl (lv_at hl 0 rfl) ?_
      refine va_get (D := G) (ci := 3) (v := .int o1.2.2.2.1) (C := RX3) (T := TX3) (N := 9) hx hb hts iw_X3_expectNumber_X3 hown hK hP 0 rfl rfl 5 (by decide) (hts (.fieldLink RX3 92 "SpireLean$Tape" "number" "I") (List.mem_of_getElem? (i := 2) rfl)) (fun _ h9 => h9) rfl dX3_expectNumber_38 ?_
      have hr := (zs h)
      subst hr
      exact hret H locs ls 41 hP hS dX3_expectNumber_41
    · have h := zit c4 h
      refine lv_aload_n hx hb dX3_expectNumber_32 rfl (lv_at hl 0 rfl) ?_
      refine lv_iconst (v := 3) hx hb dX3_expectNumber_33 (by decide) ?_
      obtain ⟨o3, hv, h⟩ := zb h
      refine z_gov (w2 := [(a_p, .inr (3, [.ref a_p_bytes, .int p_length, .int o1.1, .int o1.2.1, .int o1.2.2.1, .int o1.2.2.2.1, .int p_told, .int o3.1, .int o3.2])), (a_p_bytes, .inl (k 1, 160, .inl p_bytes))]) [0] (va_runV (As := [.int (3 : Int32)]) (rest := []) ⟨hx, hb, hml, hown, hts⟩ (c_X3_fail l G k tL tM sK sV a_p a_p_bytes H.size p_length o1.1 o1.2.1 o1.2.2.1 o1.2.2.2.1 p_told o1.2.2.2.2.1 o1.2.2.2.2.2 (3 : Int32) o3 hv) (cwV 1 hts gX3_expectNumber_X3_fail rfl rfl rfl (by decide +kernel) ⟨Nat.le_of_ble_eq_true rfl, Nat.le_of_ble_eq_true rfl⟩) (z_preV (wc := [(a_p, .inr (3, [.ref a_p_bytes, .int p_length, .int o1.1, .int o1.2.1, .int o1.2.2.1, .int o1.2.2.2.1, .int p_told, .int o1.2.2.2.2.1, .int o1.2.2.2.2.2]))]) [0] 0 3 hK hE hA hP hD hS (by decide) rfl rfl rfl) rfl rfl hl.1 rfl (lv_room (Nat.le_of_ble_eq_true rfl)) dX3_expectNumber_34 ⟨Nat.le_refl _, Nat.le_refl _⟩) hA hP hD hS rfl rfl rfl rfl (fun H locs hP hD hS => ?_)
      refine lv_aload_n hx hb dX3_expectNumber_37 rfl (lv_at hl 0 rfl) ?_
      refine va_get (D := G) (ci := 3) (v := .int o1.2.2.2.1) (C := RX3) (T := TX3) (N := 9) hx hb hts iw_X3_expectNumber_X3 hown hK hP 0 rfl rfl 5 (by decide) (hts (.fieldLink RX3 92 "SpireLean$Tape" "number" "I") (List.mem_of_getElem? (i := 2) rfl)) (fun _ h9 => h9) rfl dX3_expectNumber_38 ?_
      have hr := (zs h)
      subst hr
      exact hret H locs ls 41 hP hS dX3_expectNumber_41
  · have h := zif c6 h
    refine lv_aload_n hx hb dX3_expectNumber_12 rfl (lv_at hl 0 rfl) ?_
    refine lv_iconst (v := 2) hx hb dX3_expectNumber_13 (by decide) ?_
    obtain ⟨o5, hv, h⟩ := zb h
    refine z_gov (w2 := [(a_p, .inr (3, [.ref a_p_bytes, .int p_length, .int o1.1, .int o1.2.1, .int o1.2.2.1, .int o1.2.2.2.1, .int p_told, .int o5.1, .int o5.2])), (a_p_bytes, .inl (k 1, 160, .inl p_bytes))]) [0] (va_runV (As := [.int (2 : Int32)]) (rest := []) ⟨hx, hb, hml, hown, hts⟩ (c_X3_fail l G k tL tM sK sV a_p a_p_bytes H.size p_length o1.1 o1.2.1 o1.2.2.1 o1.2.2.2.1 p_told o1.2.2.2.2.1 o1.2.2.2.2.2 (2 : Int32) o5 hv) (cwV 1 hts gX3_expectNumber_X3_fail rfl rfl rfl (by decide +kernel) ⟨Nat.le_of_ble_eq_true rfl, Nat.le_of_ble_eq_true rfl⟩) (z_preV (wc := [(a_p, .inr (3, [.ref a_p_bytes, .int p_length, .int o1.1, .int o1.2.1, .int o1.2.2.1, .int o1.2.2.2.1, .int p_told, .int o1.2.2.2.2.1, .int o1.2.2.2.2.2]))]) [0] 0 3 hK hE hA hP hD hS (by decide) rfl rfl rfl) rfl rfl hl.1 rfl (lv_room (Nat.le_of_ble_eq_true rfl)) dX3_expectNumber_14 ⟨Nat.le_refl _, Nat.le_refl _⟩) hA hP hD hS rfl rfl rfl rfl (fun H locs hP hD hS => ?_)
    refine lv_goto (tgt := 37) hx hb dX3_expectNumber_17 (by decide) ?_
    refine lv_aload_n hx hb dX3_expectNumber_37 rfl (lv_at hl 0 rfl) ?_
    refine va_get (D := G) (ci := 3) (v := .int o1.2.2.2.1) (C := RX3) (T := TX3) (N := 9) hx hb hts iw_X3_expectNumber_X3 hown hK hP 0 rfl rfl 5 (by decide) (hts (.fieldLink RX3 92 "SpireLean$Tape" "number" "I") (List.mem_of_getElem? (i := 2) rfl)) (fun _ h9 => h9) rfl dX3_expectNumber_38 ?_
    have hr := (zs h)
    subst hr
    exact hret H locs ls 41 hP hS dX3_expectNumber_41
theorem iw_X3_expectClose_X3 : ∀ w ∈ wsX30, w ∈ wsX3_expectClose := fun _ h => List.mem_cons_of_mem _ (List.mem_append_right _ h)
set_option maxHeartbeats 4000000 in
set_option maxRecDepth 100000 in
theorem c_X3_expectClose (l : Launch) (G : va_G) (k : Nat → ClassId) (tL tM : Nat) (sK sV : Nat → Nat) (a_p : Nat) (a_p_bytes : Nat) (sz : Nat) (p_length : Int32) (p_place : Int32) (p_token : Int32) (p_tokenPlace : Int32) (p_number : Int32) (p_told : Int32) (p_fault : Int32) (p_faultPlace : Int32) (p_bytes : Nat → Int32) (out : Int32 × Int32 × Int32 × Int32 × Int32 × Int32) (h : p_X3_expectClose p_length p_place p_token p_tokenPlace p_number p_fault p_faultPlace p_bytes = some out) : zMv l yX3_expectClose wsX3_expectClose 3 61 G k tL tM sK sV [.ref a_p] [(a_p, .inr (3, [.ref a_p_bytes, .int p_length, .int p_place, .int p_token, .int p_tokenPlace, .int p_number, .int p_told, .int p_fault, .int p_faultPlace])), (a_p_bytes, .inl (k 1, 160, .inl p_bytes))] [(a_p, .inr (3, [.ref a_p_bytes, .int p_length, .int out.1, .int out.2.1, .int out.2.2.1, .int out.2.2.2.1, .int p_told, .int out.2.2.2.2.1, .int out.2.2.2.2.2])), (a_p_bytes, .inl (k 1, 160, .inl p_bytes))] sz := by
  refine z_metv (cc := cX3_expectClose) (maxL := 1) (by decide) rfl (Nat.le_of_ble_eq_true rfl) ?_
  intro p e s m below meth c A Q H locs ls hx hb hml hts hown hA hK hE hret hP hD hS hl
  have hown : s.vm.findClass RX3 = some m.cls := hown
  have hl : lv_has ls 1 [(0, .ref a_p)] := hl
  unfold p_X3_expectClose at h
  refine lv_aload_n hx hb dX3_expectClose_0 rfl (lv_at hl 0 rfl) ?_
  obtain ⟨o1, hv, h⟩ := zb h
  refine z_gov (w2 := [(a_p, .inr (3, [.ref a_p_bytes, .int p_length, .int o1.1, .int o1.2.1, .int o1.2.2.1, .int o1.2.2.2.1, .int p_told, .int o1.2.2.2.2.1, .int o1.2.2.2.2.2])), (a_p_bytes, .inl (k 1, 160, .inl p_bytes))]) [0, 1] (va_runV (As := []) (rest := []) ⟨hx, hb, hml, hown, hts⟩ (c_X3_readToken l G k tL tM sK sV a_p a_p_bytes H.size p_length p_place p_token p_tokenPlace p_number p_told p_fault p_faultPlace p_bytes o1 hv) (cwV 0 hts gX3_expectClose_X3_readToken rfl rfl rfl (by decide +kernel) ⟨Nat.le_of_ble_eq_true rfl, Nat.le_of_ble_eq_true rfl⟩) (z_preV (wc := [(a_p, .inr (3, [.ref a_p_bytes, .int p_length, .int p_place, .int p_token, .int p_tokenPlace, .int p_number, .int p_told, .int p_fault, .int p_faultPlace])), (a_p_bytes, .inl (k 1, 160, .inl p_bytes))]) [0, 1] 0 3 hK hE hA hP hD hS (by decide) rfl rfl rfl) rfl rfl hl.1 rfl (lv_room (Nat.le_of_ble_eq_true rfl)) dX3_expectClose_1 ⟨Nat.le_refl _, Nat.le_refl _⟩) hA hP hD hS rfl rfl rfl rfl (fun H locs hP hD hS => ?_)
  refine lv_aload_n hx hb dX3_expectClose_4 rfl (lv_at hl 0 rfl) ?_
  refine va_get (D := G) (ci := 3) (v := .int o1.2.1) (C := RX3) (T := TX3) (N := 9) hx hb hts iw_X3_expectClose_X3 hown hK hP 0 rfl rfl 3 (by decide) (hts (.fieldLink RX3 34 "SpireLean$Tape" "token" "I") (List.mem_of_getElem? (i := 1) rfl)) (fun _ h9 => h9) rfl dX3_expectClose_5 ?_
  refine lv_iconst (v := 3) hx hb dX3_expectClose_8 (by decide) ?_
  refine lv_icmp_eq (tgt := 17) hx hb dX3_expectClose_9 (by decide) (fun c3 => ?_) (fun c3 => ?_)
  · have h := zit c3 h
    have hr := (zs h)
    subst hr
    exact hret H locs ls 17 hP hS dX3_expectClose_17
  · have h := zif c3 h
    refine lv_aload_n hx hb dX3_expectClose_12 rfl (lv_at hl 0 rfl) ?_
    refine lv_iconst (v := 2) hx hb dX3_expectClose_13 (by decide) ?_
    obtain ⟨o2, hv, h⟩ := zb h
    refine z_gov (w2 := [(a_p, .inr (3, [.ref a_p_bytes, .int p_length, .int o1.1, .int o1.2.1, .int o1.2.2.1, .int o1.2.2.2.1, .int p_told, .int o2.1, .int o2.2])), (a_p_bytes, .inl (k 1, 160, .inl p_bytes))]) [0] (va_runV (As := [.int (2 : Int32)]) (rest := []) ⟨hx, hb, hml, hown, hts⟩ (c_X3_fail l G k tL tM sK sV a_p a_p_bytes H.size p_length o1.1 o1.2.1 o1.2.2.1 o1.2.2.2.1 p_told o1.2.2.2.2.1 o1.2.2.2.2.2 (2 : Int32) o2 hv) (cwV 1 hts gX3_expectClose_X3_fail rfl rfl rfl (by decide +kernel) ⟨Nat.le_of_ble_eq_true rfl, Nat.le_of_ble_eq_true rfl⟩) (z_preV (wc := [(a_p, .inr (3, [.ref a_p_bytes, .int p_length, .int o1.1, .int o1.2.1, .int o1.2.2.1, .int o1.2.2.2.1, .int p_told, .int o1.2.2.2.2.1, .int o1.2.2.2.2.2]))]) [0] 0 3 hK hE hA hP hD hS (by decide) rfl rfl rfl) rfl rfl hl.1 rfl (lv_room (Nat.le_of_ble_eq_true rfl)) dX3_expectClose_14 ⟨Nat.le_refl _, Nat.le_refl _⟩) hA hP hD hS rfl rfl rfl rfl (fun H locs hP hD hS => ?_)
    have hr := (zs h)
    subst hr
    exact hret H locs ls 17 hP hS dX3_expectClose_17
theorem iw_X3_readDraw_X3 : ∀ w ∈ wsX30, w ∈ wsX3_readDraw := fun _ h => List.mem_cons_of_mem _ (List.mem_append_left _ (List.mem_append_right _ h))
set_option maxHeartbeats 4000000 in
set_option maxRecDepth 100000 in
theorem c_X3_readDraw (l : Launch) (G : va_G) (k : Nat → ClassId) (tL tM : Nat) (sK sV : Nat → Nat) (a_p : Nat) (a_p_bytes : Nat) (a_t : Nat) (a_t_traits : Nat) (sz : Nat) (p_length : Int32) (p_place : Int32) (p_token : Int32) (p_tokenPlace : Int32) (p_number : Int32) (p_told : Int32) (p_fault : Int32) (p_faultPlace : Int32) (p_bytes : Nat → Int32) (t_draws : Int32) (t_foot : Int32) (t_point : Int32) (t_stiff : Int32) (t_bears : Int32) (t_year : Int32) (t_traits : Nat → Int32) (u2 : Int32) (out : Int32 × Int32 × Int32 × Int32 × Int32 × Int32 × Int32 × (Nat → Int32)) (h : p_X3_readDraw u2 p_length p_place p_token p_tokenPlace p_number p_fault p_faultPlace p_bytes t_draws t_traits = some out) : zMv l yX3_readDraw wsX3_readDraw 4 83 G k tL tM sK sV [.ref a_p, .ref a_t, .int u2] [(a_p, .inr (3, [.ref a_p_bytes, .int p_length, .int p_place, .int p_token, .int p_tokenPlace, .int p_number, .int p_told, .int p_fault, .int p_faultPlace])), (a_p_bytes, .inl (k 1, 160, .inl p_bytes)), (a_t, .inr (4, [.ref a_t_traits, .int t_draws, .int t_foot, .int t_point, .int t_stiff, .int t_bears, .int t_year])), (a_t_traits, .inl (k 0, 20, .inl t_traits))] [(a_p, .inr (3, [.ref a_p_bytes, .int p_length, .int out.1, .int out.2.1, .int out.2.2.1, .int out.2.2.2.1, .int p_told, .int out.2.2.2.2.1, .int out.2.2.2.2.2.1])), (a_p_bytes, .inl (k 1, 160, .inl p_bytes)), (a_t, .inr (4, [.ref a_t_traits, .int out.2.2.2.2.2.2.1, .int t_foot, .int t_point, .int t_stiff, .int t_bears, .int t_year])), (a_t_traits, .inl (k 0, 20, .inl out.2.2.2.2.2.2.2))] sz := by
  refine z_metv (cc := cX3_readDraw) (maxL := 6) (by decide) rfl (Nat.le_of_ble_eq_true rfl) ?_
  intro p e s m below meth c A Q H locs ls hx hb hml hts hown hA hK hE hret hP hD hS hl
  have hown : s.vm.findClass RX3 = some m.cls := hown
  have hl : lv_has ls 6 [(0, .ref a_p), (1, .ref a_t), (2, .int u2)] := hl
  unfold p_X3_readDraw at h
  refine lv_aload_n hx hb dX3_readDraw_0 rfl (lv_at hl 1 rfl) ?_
  obtain ⟨o1, hv, h⟩ := zb h
  refine z_goi (w2 := [(a_p, .inr (3, [.ref a_p_bytes, .int p_length, .int p_place, .int p_token, .int p_tokenPlace, .int p_number, .int p_told, .int p_fault, .int p_faultPlace])), (a_p_bytes, .inl (k 1, 160, .inl p_bytes)), (a_t, .inr (4, [.ref a_t_traits, .int t_draws, .int t_foot, .int t_point, .int t_stiff, .int t_bears, .int t_year])), (a_t_traits, .inl (k 0, 20, .inl t_traits))]) [2] (va_runVN (As := []) (rest := []) ⟨hx, hb, hml, hown, hts⟩ (c_X4_isFull l G k tL tM sK sV a_t a_t_traits H.size t_draws t_foot t_point t_stiff t_bears t_year o1 hv) ⟨va_cnB 0 hts gX3_readDraw_X4_isFull_n52 rfl rfl rfl (hE.1 (.methodLinkNest RX3 52 yX4_isFull "SpireLean") (List.mem_of_getElem? (i := 32) rfl)) (hts (.initialized RX4) (List.mem_of_getElem? (i := 3) rfl)) (by decide +kernel) ⟨Nat.le_of_ble_eq_true rfl, Nat.le_of_ble_eq_true rfl⟩, (hts (.instanceMethod yX4_isFull) (List.mem_of_getElem? (i := 2) rfl)), (hts (.selects RX4 yX4_isFull yX4_isFull) (List.mem_of_getElem? (i := 4) rfl))⟩ (z_preV (wc := [(a_t, .inr (4, [.ref a_t_traits, .int t_draws, .int t_foot, .int t_point, .int t_stiff, .int t_bears, .int t_year]))]) [2] 2 4 hK hE hA hP hD hS (by decide) rfl rfl rfl) rfl rfl hl.1 rfl (lv_room (Nat.le_of_ble_eq_true rfl)) dX3_readDraw_1 ⟨Nat.le_refl _, Nat.le_refl _⟩) hA hP hD hS rfl rfl rfl rfl (fun H locs hP hD hS => ?_)
  obtain ⟨e2, hv, h⟩ := zb h
  have hJ3 : ∀ (e2_ : Int32 × Int32), e2_ = e2 → zW p l e (zR 4 83) s m ([.ref a_p, .ref a_t, .int u2] : List Value).toArray below meth c Q 6 A G [(a_p, .inr (3, [.ref a_p_bytes, .int p_length, .int p_place, .int p_token, .int p_tokenPlace, .int p_number, .int p_told, .int e2_.1, .int e2_.2])), (a_p_bytes, .inl (k 1, 160, .inl p_bytes)), (a_t, .inr (4, [.ref a_t_traits, .int t_draws, .int t_foot, .int t_point, .int t_stiff, .int t_bears, .int t_year])), (a_t_traits, .inl (k 0, 20, .inl t_traits))] [(0, .ref a_p), (1, .ref a_t), (2, .int u2)] 12 [] := by
    intro e2_ hz
    subst hz
    intro H locs ls hP hD hS hl
    refine lv_aload_n hx hb dX3_readDraw_12 rfl (lv_at hl 0 rfl) ?_
    refine va_getsN (C := "SpireLean") hx hb hE.2.1 hS hown (va_Nw.use rfl (hE.1 (.fieldLinkNest RX3 58 "SpireLean" "LEAST" "[I" "SpireLean") (List.mem_of_getElem? (i := 22) rfl))) (fun _ h9 => h9) dX3_readDraw_13 ?_
    refine lv_iconst (v := 1) hx hb dX3_readDraw_16 (by decide) ?_
    obtain ⟨v7, hv, h⟩ := zb h
    refine z_sti hx hb hE.2.2.2.1 hS hv dX3_readDraw_17 ?_
    refine va_getsN (C := "SpireLean") hx hb hE.2.2.1 hS hown (va_Nw.use rfl (hE.1 (.fieldLinkNest RX3 62 "SpireLean" "MOST" "[I" "SpireLean") (List.mem_of_getElem? (i := 23) rfl))) (fun _ h9 => h9) dX3_readDraw_18 ?_
    refine lv_iconst (v := 1) hx hb dX3_readDraw_21 (by decide) ?_
    obtain ⟨v8, hv, h⟩ := zb h
    refine z_sti hx hb hE.2.2.2.2.1 hS hv dX3_readDraw_22 ?_
    obtain ⟨o9, hv, h⟩ := zb h
    refine z_goi (w2 := [(a_p, .inr (3, [.ref a_p_bytes, .int p_length, .int o9.2.1, .int o9.2.2.1, .int o9.2.2.2.1, .int o9.2.2.2.2.1, .int p_told, .int o9.2.2.2.2.2.1, .int o9.2.2.2.2.2.2])), (a_p_bytes, .inl (k 1, 160, .inl p_bytes)), (a_t, .inr (4, [.ref a_t_traits, .int t_draws, .int t_foot, .int t_point, .int t_stiff, .int t_bears, .int t_year])), (a_t_traits, .inl (k 0, 20, .inl t_traits))]) [0, 1] (va_runV (As := [.int v7, .int v8]) (rest := []) ⟨hx, hb, hml, hown, hts⟩ (c_X3_expectNumber l G k tL tM sK sV a_p a_p_bytes H.size p_length p_place p_token p_tokenPlace p_number p_told e2_.1 e2_.2 p_bytes v7 v8 o9 hv) (cwV 2 hts gX3_readDraw_X3_expectNumber rfl rfl rfl (by decide +kernel) ⟨Nat.le_of_ble_eq_true rfl, Nat.le_of_ble_eq_true rfl⟩) (z_preV (wc := [(a_p, .inr (3, [.ref a_p_bytes, .int p_length, .int p_place, .int p_token, .int p_tokenPlace, .int p_number, .int p_told, .int e2_.1, .int e2_.2])), (a_p_bytes, .inl (k 1, 160, .inl p_bytes))]) [0, 1] 0 3 hK hE hA hP hD hS (by decide) rfl rfl rfl) rfl rfl hl.1 rfl (lv_room (Nat.le_of_ble_eq_true rfl)) dX3_readDraw_23 ⟨Nat.le_refl _, Nat.le_refl _⟩) hA hP hD hS rfl rfl rfl rfl (fun H locs hP hD hS => ?_)
    refine lv_istore_n (lv' := [(3, .int o9.1), (0, .ref a_p), (1, .ref a_t), (2, .int u2)]) hx hb dX3_readDraw_26 rfl hl (by decide) rfl (fun ls hl => ?_)
    refine lv_aload_n hx hb dX3_readDraw_27 rfl (lv_at hl 1 rfl) ?_
    refine va_getsN (C := "SpireLean") hx hb hE.2.1 hS hown (va_Nw.use rfl (hE.1 (.fieldLinkNest RX3 58 "SpireLean" "LEAST" "[I" "SpireLean") (List.mem_of_getElem? (i := 22) rfl))) (fun _ h9 => h9) dX3_readDraw_28 ?_
    refine lv_iconst (v := 2) hx hb dX3_readDraw_31 (by decide) ?_
    obtain ⟨v10, hv, h⟩ := zb h
    refine z_sti hx hb hE.2.2.2.1 hS hv dX3_readDraw_32 ?_
    refine va_getsN (C := "SpireLean") hx hb hE.2.2.1 hS hown (va_Nw.use rfl (hE.1 (.fieldLinkNest RX3 62 "SpireLean" "MOST" "[I" "SpireLean") (List.mem_of_getElem? (i := 23) rfl))) (fun _ h9 => h9) dX3_readDraw_33 ?_
    refine lv_iconst (v := 2) hx hb dX3_readDraw_36 (by decide) ?_
    obtain ⟨v11, hv, h⟩ := zb h
    refine z_sti hx hb hE.2.2.2.2.1 hS hv dX3_readDraw_37 ?_
    obtain ⟨o12, hv, h⟩ := zb h
    refine z_goi (w2 := [(a_p, .inr (3, [.ref a_p_bytes, .int p_length, .int o12.2.1, .int o12.2.2.1, .int o12.2.2.2.1, .int o12.2.2.2.2.1, .int p_told, .int o12.2.2.2.2.2.1, .int o12.2.2.2.2.2.2])), (a_p_bytes, .inl (k 1, 160, .inl p_bytes)), (a_t, .inr (4, [.ref a_t_traits, .int t_draws, .int t_foot, .int t_point, .int t_stiff, .int t_bears, .int t_year])), (a_t_traits, .inl (k 0, 20, .inl t_traits))]) [0, 1] (va_runV (As := [.int v10, .int v11]) (rest := []) ⟨hx, hb, hml, hown, hts⟩ (c_X3_expectNumber l G k tL tM sK sV a_p a_p_bytes H.size p_length o9.2.1 o9.2.2.1 o9.2.2.2.1 o9.2.2.2.2.1 p_told o9.2.2.2.2.2.1 o9.2.2.2.2.2.2 p_bytes v10 v11 o12 hv) (cwV 2 hts gX3_readDraw_X3_expectNumber rfl rfl rfl (by decide +kernel) ⟨Nat.le_of_ble_eq_true rfl, Nat.le_of_ble_eq_true rfl⟩) (z_preV (wc := [(a_p, .inr (3, [.ref a_p_bytes, .int p_length, .int o9.2.1, .int o9.2.2.1, .int o9.2.2.2.1, .int o9.2.2.2.2.1, .int p_told, .int o9.2.2.2.2.2.1, .int o9.2.2.2.2.2.2])), (a_p_bytes, .inl (k 1, 160, .inl p_bytes))]) [0, 1] 0 3 hK hE hA hP hD hS (by decide) rfl rfl rfl) rfl rfl hl.1 rfl (lv_room (Nat.le_of_ble_eq_true rfl)) dX3_readDraw_38 ⟨Nat.le_refl _, Nat.le_refl _⟩) hA hP hD hS rfl rfl rfl rfl (fun H locs hP hD hS => ?_)
    refine lv_istore (lv' := [(4, .int o12.1), (3, .int o9.1), (0, .ref a_p), (1, .ref a_t), (2, .int u2)]) hx hb dX3_readDraw_41 hl (by decide) rfl (fun ls hl => ?_)
    refine lv_aload_n hx hb dX3_readDraw_43 rfl (lv_at hl 2 rfl) ?_
    refine va_getsN (C := "SpireLean") hx hb hE.2.1 hS hown (va_Nw.use rfl (hE.1 (.fieldLinkNest RX3 58 "SpireLean" "LEAST" "[I" "SpireLean") (List.mem_of_getElem? (i := 22) rfl))) (fun _ h9 => h9) dX3_readDraw_44 ?_
    refine lv_iconst (v := 3) hx hb dX3_readDraw_47 (by decide) ?_
    obtain ⟨v13, hv, h⟩ := zb h
    refine z_sti hx hb hE.2.2.2.1 hS hv dX3_readDraw_48 ?_
    refine va_getsN (C := "SpireLean") hx hb hE.2.2.1 hS hown (va_Nw.use rfl (hE.1 (.fieldLinkNest RX3 62 "SpireLean" "MOST" "[I" "SpireLean") (List.mem_of_getElem? (i := 23) rfl))) (fun _ h9 => h9) dX3_readDraw_49 ?_
    refine lv_iconst (v := 3) hx hb dX3_readDraw_52 (by decide) ?_
    obtain ⟨v14, hv, h⟩ := zb h
    refine z_sti hx hb hE.2.2.2.2.1 hS hv dX3_readDraw_53 ?_
    obtain ⟨o15, hv, h⟩ := zb h
    refine z_goi (w2 := [(a_p, .inr (3, [.ref a_p_bytes, .int p_length, .int o15.2.1, .int o15.2.2.1, .int o15.2.2.2.1, .int o15.2.2.2.2.1, .int p_told, .int o15.2.2.2.2.2.1, .int o15.2.2.2.2.2.2])), (a_p_bytes, .inl (k 1, 160, .inl p_bytes)), (a_t, .inr (4, [.ref a_t_traits, .int t_draws, .int t_foot, .int t_point, .int t_stiff, .int t_bears, .int t_year])), (a_t_traits, .inl (k 0, 20, .inl t_traits))]) [0, 1] (va_runV (As := [.int v13, .int v14]) (rest := []) ⟨hx, hb, hml, hown, hts⟩ (c_X3_expectNumber l G k tL tM sK sV a_p a_p_bytes H.size p_length o12.2.1 o12.2.2.1 o12.2.2.2.1 o12.2.2.2.2.1 p_told o12.2.2.2.2.2.1 o12.2.2.2.2.2.2 p_bytes v13 v14 o15 hv) (cwV 2 hts gX3_readDraw_X3_expectNumber rfl rfl rfl (by decide +kernel) ⟨Nat.le_of_ble_eq_true rfl, Nat.le_of_ble_eq_true rfl⟩) (z_preV (wc := [(a_p, .inr (3, [.ref a_p_bytes, .int p_length, .int o12.2.1, .int o12.2.2.1, .int o12.2.2.2.1, .int o12.2.2.2.2.1, .int p_told, .int o12.2.2.2.2.2.1, .int o12.2.2.2.2.2.2])), (a_p_bytes, .inl (k 1, 160, .inl p_bytes))]) [0, 1] 0 3 hK hE hA hP hD hS (by decide) rfl rfl rfl) rfl rfl hl.1 rfl (lv_room (Nat.le_of_ble_eq_true rfl)) dX3_readDraw_54 ⟨Nat.le_refl _, Nat.le_refl _⟩) hA hP hD hS rfl rfl rfl rfl (fun H locs hP hD hS => ?_)
    refine lv_istore (lv' := [(5, .int o15.1), (4, .int o12.1), (3, .int o9.1), (0, .ref a_p), (1, .ref a_t), (2, .int u2)]) hx hb dX3_readDraw_57 hl (by decide) rfl (fun ls hl => ?_)
    refine lv_aload_n hx hb dX3_readDraw_59 rfl (lv_at hl 3 rfl) ?_
    obtain ⟨o16, hv, h⟩ := zb h
    refine z_gov (w2 := [(a_p, .inr (3, [.ref a_p_bytes, .int p_length, .int o16.1, .int o16.2.1, .int o16.2.2.1, .int o16.2.2.2.1, .int p_told, .int o16.2.2.2.2.1, .int o16.2.2.2.2.2])), (a_p_bytes, .inl (k 1, 160, .inl p_bytes)), (a_t, .inr (4, [.ref a_t_traits, .int t_draws, .int t_foot, .int t_point, .int t_stiff, .int t_bears, .int t_year])), (a_t_traits, .inl (k 0, 20, .inl t_traits))]) [0, 1] (va_runV (As := []) (rest := []) ⟨hx, hb, hml, hown, hts⟩ (c_X3_expectClose l G k tL tM sK sV a_p a_p_bytes H.size p_length o15.2.1 o15.2.2.1 o15.2.2.2.1 o15.2.2.2.2.1 p_told o15.2.2.2.2.2.1 o15.2.2.2.2.2.2 p_bytes o16 hv) (cwV 0 hts gX3_readDraw_X3_expectClose rfl rfl rfl (by decide +kernel) ⟨Nat.le_of_ble_eq_true rfl, Nat.le_of_ble_eq_true rfl⟩) (z_preV (wc := [(a_p, .inr (3, [.ref a_p_bytes, .int p_length, .int o15.2.1, .int o15.2.2.1, .int o15.2.2.2.1, .int o15.2.2.2.2.1, .int p_told, .int o15.2.2.2.2.2.1, .int o15.2.2.2.2.2.2])), (a_p_bytes, .inl (k 1, 160, .inl p_bytes))]) [0, 1] 0 3 hK hE hA hP hD hS (by decide) rfl rfl rfl) rfl rfl hl.1 rfl (lv_room (Nat.le_of_ble_eq_true rfl)) dX3_readDraw_60 ⟨Nat.le_refl _, Nat.le_refl _⟩) hA hP hD hS rfl rfl rfl rfl (fun H locs hP hD hS => ?_)
    refine lv_aload_n hx hb dX3_readDraw_63 rfl (lv_at hl 3 rfl) ?_
    refine va_get (D := G) (ci := 3) (v := .int o16.2.2.2.2.1) (C := RX3) (T := TX3) (N := 9) hx hb hts iw_X3_readDraw_X3 hown hK hP 0 rfl rfl 7 (by decide) (hts (.fieldLink RX3 25 "SpireLean$Tape" "fault" "I") (List.mem_of_getElem? (i := 1) rfl)) (fun _ h9 => h9) rfl dX3_readDraw_64 ?_
    refine lv_if_ne (tgt := 80) hx hb dX3_readDraw_67 (by decide) (fun c18 => ?_) (fun c18 => ?_)
    · have h := zif c18 h
      have hr := (zs h)
      subst hr
      exact hret H locs ls 80 hP hS dX3_readDraw_80
    · have h := zit c18 h
      refine lv_aload_n hx hb dX3_readDraw_70 rfl (lv_at hl 4 rfl) ?_
      refine lv_iload_n hx hb dX3_readDraw_71 rfl (lv_at hl 5 rfl) ?_
      refine lv_iload_n hx hb dX3_readDraw_72 rfl (lv_at hl 2 rfl) ?_
      refine lv_iload hx hb dX3_readDraw_73 (lv_at hl 1 rfl) ?_
      refine lv_iload hx hb dX3_readDraw_75 (lv_at hl 0 rfl) ?_
      obtain ⟨o17, hv, h⟩ := zb h
      refine z_gov (w2 := [(a_p, .inr (3, [.ref a_p_bytes, .int p_length, .int o16.1, .int o16.2.1, .int o16.2.2.1, .int o16.2.2.2.1, .int p_told, .int o16.2.2.2.2.1, .int o16.2.2.2.2.2])), (a_p_bytes, .inl (k 1, 160, .inl p_bytes)), (a_t, .inr (4, [.ref a_t_traits, .int o17.1, .int t_foot, .int t_point, .int t_stiff, .int t_bears, .int t_year])), (a_t_traits, .inl (k 0, 20, .inl o17.2))]) [2, 3] (va_runVN (As := [.int u2, .int o9.1, .int o12.1, .int o15.1]) (rest := []) ⟨hx, hb, hml, hown, hts⟩ (c_X4_addDraw l G k tL tM sK sV a_t a_t_traits H.size t_draws t_foot t_point t_stiff t_bears t_year t_traits u2 o9.1 o12.1 o15.1 o17 hv) ⟨va_cnB 4 hts gX3_readDraw_X4_addDraw_n72 rfl rfl rfl (hE.1 (.methodLinkNest RX3 72 yX4_addDraw "SpireLean") (List.mem_of_getElem? (i := 34) rfl)) (hts (.initialized RX4) (List.mem_of_getElem? (i := 3) rfl)) (by decide +kernel) ⟨Nat.le_of_ble_eq_true rfl, Nat.le_of_ble_eq_true rfl⟩, (hts (.instanceMethod yX4_addDraw) (List.mem_of_getElem? (i := 48) rfl)), (hts (.selects RX4 yX4_addDraw yX4_addDraw) (List.mem_of_getElem? (i := 49) rfl))⟩ (z_preV (wc := [(a_t, .inr (4, [.ref a_t_traits, .int t_draws, .int t_foot, .int t_point, .int t_stiff, .int t_bears, .int t_year])), (a_t_traits, .inl (k 0, 20, .inl t_traits))]) [2, 3] 2 4 hK hE hA hP hD hS (by decide) rfl rfl rfl) rfl rfl hl.1 rfl (lv_room (Nat.le_of_ble_eq_true rfl)) dX3_readDraw_77 ⟨Nat.le_refl _, Nat.le_refl _⟩) hA hP hD hS rfl rfl rfl rfl (fun H locs hP hD hS => ?_)
      have hr := (zs h)
      subst hr
      exact hret H locs ls 80 hP hS dX3_readDraw_80
  clear h
  have h := hv
  refine lv_if_eq (tgt := 12) hx hb dX3_readDraw_4 (by decide) (fun c6 => ?_) (fun c6 => ?_)
  · have h := zit c6 h
    exact hJ3 _ (zs h) H locs ls hP hD hS (lv_sub hl [0, 1, 2] rfl)
  · have h := zif c6 h
    refine lv_aload_n hx hb dX3_readDraw_7 rfl (lv_at hl 0 rfl) ?_
    refine lv_iconst (v := 5) hx hb dX3_readDraw_8 (by decide) ?_
    obtain ⟨o5, hv, h⟩ := zb h
    refine z_gov (w2 := [(a_p, .inr (3, [.ref a_p_bytes, .int p_length, .int p_place, .int p_token, .int p_tokenPlace, .int p_number, .int p_told, .int o5.1, .int o5.2])), (a_p_bytes, .inl (k 1, 160, .inl p_bytes)), (a_t, .inr (4, [.ref a_t_traits, .int t_draws, .int t_foot, .int t_point, .int t_stiff, .int t_bears, .int t_year])), (a_t_traits, .inl (k 0, 20, .inl t_traits))]) [0] (va_runV (As := [.int (5 : Int32)]) (rest := []) ⟨hx, hb, hml, hown, hts⟩ (c_X3_fail l G k tL tM sK sV a_p a_p_bytes H.size p_length p_place p_token p_tokenPlace p_number p_told p_fault p_faultPlace (5 : Int32) o5 hv) (cwV 1 hts gX3_readDraw_X3_fail rfl rfl rfl (by decide +kernel) ⟨Nat.le_of_ble_eq_true rfl, Nat.le_of_ble_eq_true rfl⟩) (z_preV (wc := [(a_p, .inr (3, [.ref a_p_bytes, .int p_length, .int p_place, .int p_token, .int p_tokenPlace, .int p_number, .int p_told, .int p_fault, .int p_faultPlace]))]) [0] 0 3 hK hE hA hP hD hS (by decide) rfl rfl rfl) rfl rfl hl.1 rfl (lv_room (Nat.le_of_ble_eq_true rfl)) dX3_readDraw_9 ⟨Nat.le_refl _, Nat.le_refl _⟩) hA hP hD hS rfl rfl rfl rfl (fun H locs hP hD hS => ?_)
    exact hJ3 _ (zs h) H locs ls hP hD hS (lv_sub hl [0, 1, 2] rfl)
set_option maxHeartbeats 4000000 in
set_option maxRecDepth 100000 in
theorem c_X3_mostOfSetting (l : Launch) (G : va_G) (k : Nat → ClassId) (tL tM : Nat) (sK sV : Nat → Nat) (sz : Nat) (u1 : Int32) (out : Int32) (h : p_X3_mostOfSetting u1 = some out) : zMi l yX3_mostOfSetting wsX3_mostOfSetting 0 0 G k tL tM sK sV [.int u1] [] [] out sz := by
  refine z_meti (cc := cX3_mostOfSetting) (maxL := 1) (by decide) rfl (Nat.le_of_ble_eq_true rfl) ?_
  intro p e s m below meth c A Q H locs ls hx hb hml hts hown hA hK hE hret hP hD hS hl
  have hown : s.vm.findClass RX3 = some m.cls := hown
  have hl : lv_has ls 1 [(0, .int u1)] := hl
  unfold p_X3_mostOfSetting at h
  refine lv_iload_n hx hb dX3_mostOfSetting_0 rfl (lv_at hl 0 rfl) ?_
  by_cases c1 : u1 = (4 : Int32)
  · have h := zit c1 h
    refine lv_lookup (off := 27) (tgt := 28) hx hb dX3_mostOfSetting_1 (by decide) (by rw [c1]; decide) (by decide) ?_
    refine lv_bipush (v := 99) hx hb dX3_mostOfSetting_28 (by decide) ?_
    have hr := (zs h)
    subst hr
    exact hret H locs ls 30 hP hS dX3_mostOfSetting_30
  · have h := zif c1 h
    by_cases c2 : u1 = (5 : Int32)
    · have h := zit c2 h
      refine lv_lookup (off := 30) (tgt := 31) hx hb dX3_mostOfSetting_1 (by decide) (by rw [c2]; decide) (by decide) ?_
      refine lv_bipush (v := 20) hx hb dX3_mostOfSetting_31 (by decide) ?_
      have hr := (zs h)
      subst hr
      exact hret H locs ls 33 hP hS dX3_mostOfSetting_33
    · have h := zif c2 h
      have e0 : (u1).toInt ≠ 4 := fun q => c1 (Int32.toInt_inj.mp q)
      have e1 : (u1).toInt ≠ 5 := fun q => c2 (Int32.toInt_inj.mp q)
      refine lv_lookup (off := 33) (tgt := 34) hx hb dX3_mostOfSetting_1 (by decide) (by simp [Op.lookupswitch.offset, e0, Ne.symm e0, e1, Ne.symm e1]) (by decide) ?_
      refine lv_bipush (v := 18) hx hb dX3_mostOfSetting_34 (by decide) ?_
      have hr := (zs h)
      subst hr
      exact hret H locs ls 36 hP hS dX3_mostOfSetting_36
theorem iw_X3_readSetting_X3 : ∀ w ∈ wsX30, w ∈ wsX3_readSetting := fun _ h => List.mem_cons_of_mem _ (List.mem_append_left _ (List.mem_append_right _ h))
theorem iw_X3_readSetting_X4 : ∀ w ∈ wsX40, w ∈ wsX3_readSetting := fun _ h => List.mem_cons_of_mem _ (List.mem_append_right _ h)
set_option maxHeartbeats 4000000 in
set_option maxRecDepth 100000 in
theorem c_X3_readSetting (l : Launch) (G : va_G) (k : Nat → ClassId) (tL tM : Nat) (sK sV : Nat → Nat) (a_p : Nat) (a_p_bytes : Nat) (a_t : Nat) (a_t_traits : Nat) (sz : Nat) (p_length : Int32) (p_place : Int32) (p_token : Int32) (p_tokenPlace : Int32) (p_number : Int32) (p_told : Int32) (p_fault : Int32) (p_faultPlace : Int32) (p_bytes : Nat → Int32) (t_draws : Int32) (t_foot : Int32) (t_point : Int32) (t_stiff : Int32) (t_bears : Int32) (t_year : Int32) (u2 : Int32) (out : Int32 × Int32 × Int32 × Int32 × Int32 × Int32 × Int32 × Int32 × Int32 × Int32 × Int32) (h : p_X3_readSetting u2 p_length p_place p_token p_tokenPlace p_number p_told p_fault p_faultPlace p_bytes t_foot t_point t_stiff t_bears = some out) : zMv l yX3_readSetting wsX3_readSetting 4 83 G k tL tM sK sV [.ref a_p, .ref a_t, .int u2] [(a_p, .inr (3, [.ref a_p_bytes, .int p_length, .int p_place, .int p_token, .int p_tokenPlace, .int p_number, .int p_told, .int p_fault, .int p_faultPlace])), (a_p_bytes, .inl (k 1, 160, .inl p_bytes)), (a_t, .inr (4, [.ref a_t_traits, .int t_draws, .int t_foot, .int t_point, .int t_stiff, .int t_bears, .int t_year]))] [(a_p, .inr (3, [.ref a_p_bytes, .int p_length, .int out.1, .int out.2.1, .int out.2.2.1, .int out.2.2.2.1, .int out.2.2.2.2.1, .int out.2.2.2.2.2.1, .int out.2.2.2.2.2.2.1])), (a_p_bytes, .inl (k 1, 160, .inl p_bytes)), (a_t, .inr (4, [.ref a_t_traits, .int t_draws, .int out.2.2.2.2.2.2.2.1, .int out.2.2.2.2.2.2.2.2.1, .int out.2.2.2.2.2.2.2.2.2.1, .int out.2.2.2.2.2.2.2.2.2.2, .int t_year]))] sz := by
  refine z_metv (cc := cX3_readSetting) (maxL := 4) (by decide) rfl (Nat.le_of_ble_eq_true rfl) ?_
  intro p e s m below meth c A Q H locs ls hx hb hml hts hown hA hK hE hret hP hD hS hl
  have hown : s.vm.findClass RX3 = some m.cls := hown
  have hl : lv_has ls 4 [(0, .ref a_p), (1, .ref a_t), (2, .int u2)] := hl
  unfold p_X3_readSetting at h
  refine lv_aload_n hx hb dX3_readSetting_0 rfl (lv_at hl 0 rfl) ?_
  refine va_get (D := G) (ci := 3) (v := .int p_told) (C := RX3) (T := TX3) (N := 9) hx hb hts iw_X3_readSetting_X3 hown hK hP 0 rfl rfl 6 (by decide) (hts (.fieldLink RX3 22 "SpireLean$Tape" "told" "I") (List.mem_of_getElem? (i := 1) rfl)) (fun _ h9 => h9) rfl dX3_readSetting_1 ?_
  refine lv_iload_n hx hb dX3_readSetting_4 rfl (lv_at hl 2 rfl) ?_
  refine lv_ishr hx hb dX3_readSetting_5 ?_
  refine lv_iconst (v := 1) hx hb dX3_readSetting_6 (by decide) ?_
  refine lv_iand hx hb dX3_readSetting_7 ?_
  refine lv_iconst (v := 1) hx hb dX3_readSetting_8 (by decide) ?_
  obtain ⟨e1, hv, h⟩ := zb h
  have hJ2 : ∀ (e1_ : Int32 × Int32), e1_ = e1 → zW p l e (zR 4 83) s m ([.ref a_p, .ref a_t, .int u2] : List Value).toArray below meth c Q 4 A G [(a_p, .inr (3, [.ref a_p_bytes, .int p_length, .int p_place, .int p_token, .int p_tokenPlace, .int p_number, .int p_told, .int e1_.1, .int e1_.2])), (a_p_bytes, .inl (k 1, 160, .inl p_bytes)), (a_t, .inr (4, [.ref a_t_traits, .int t_draws, .int t_foot, .int t_point, .int t_stiff, .int t_bears, .int t_year]))] [(0, .ref a_p), (1, .ref a_t), (2, .int u2)] 17 [] := by
    intro e1_ hz
    subst hz
    intro H locs ls hP hD hS hl
    refine lv_aload_n hx hb dX3_readSetting_17 rfl (lv_at hl 0 rfl) ?_
    refine lv_dup hx hb dX3_readSetting_18 rfl ?_
    refine va_get (D := G) (ci := 3) (v := .int p_told) (C := RX3) (T := TX3) (N := 9) hx hb hts iw_X3_readSetting_X3 hown hK hP 0 rfl rfl 6 (by decide) (hts (.fieldLink RX3 22 "SpireLean$Tape" "told" "I") (List.mem_of_getElem? (i := 1) rfl)) (fun _ h9 => h9) rfl dX3_readSetting_19 ?_
    refine lv_iconst (v := 1) hx hb dX3_readSetting_22 (by decide) ?_
    refine lv_iload_n hx hb dX3_readSetting_23 rfl (lv_at hl 2 rfl) ?_
    refine lv_ishl hx hb dX3_readSetting_24 ?_
    refine lv_ior hx hb dX3_readSetting_25 ?_
    refine va_put (D := G) (ci := 3) (v := .int (p_told ||| ((1 : Int32) <<< (u2 &&& 31)))) (ty := .int) (C := RX3) (T := TX3) (N := 9) hx hb hts iw_X3_readSetting_X3 tyX3 tyX3_ok nmX3 hown hK hP hD hS 0 rfl rfl 6 (by decide) (hts (.fieldLink RX3 22 "SpireLean$Tape" "told" "I") (List.mem_of_getElem? (i := 1) rfl)) (fun _ h9 => h9) rfl (tyX3_ok 6 (by decide)) rfl rfl (Nat.le_of_ble_eq_true rfl) dX3_readSetting_26 (fun H locs hP hD hS => ?_)
    have hP : va_P G vwCl [(a_p, .inr (3, [.ref a_p_bytes, .int p_length, .int p_place, .int p_token, .int p_tokenPlace, .int p_number, .int (p_told ||| ((1 : Int32) <<< (u2 &&& 31))), .int e1_.1, .int e1_.2])), (a_p_bytes, .inl (k 1, 160, .inl p_bytes)), (a_t, .inr (4, [.ref a_t_traits, .int t_draws, .int t_foot, .int t_point, .int t_stiff, .int t_bears, .int t_year]))] H := hP
    have hD : va_D A [(a_p, .inr (3, [.ref a_p_bytes, .int p_length, .int p_place, .int p_token, .int p_tokenPlace, .int p_number, .int (p_told ||| ((1 : Int32) <<< (u2 &&& 31))), .int e1_.1, .int e1_.2])), (a_p_bytes, .inl (k 1, 160, .inl p_bytes)), (a_t, .inr (4, [.ref a_t_traits, .int t_draws, .int t_foot, .int t_point, .int t_stiff, .int t_bears, .int t_year]))] := hD
    refine lv_aload_n hx hb dX3_readSetting_29 rfl (lv_at hl 0 rfl) ?_
    refine lv_iconst (v := 0) hx hb dX3_readSetting_30 (by decide) ?_
    refine lv_iload_n hx hb dX3_readSetting_31 rfl (lv_at hl 2 rfl) ?_
    obtain ⟨o6, hv, h⟩ := zb h
    refine z_goi (w2 := [(a_p, .inr (3, [.ref a_p_bytes, .int p_length, .int p_place, .int p_token, .int p_tokenPlace, .int p_number, .int (p_told ||| ((1 : Int32) <<< (u2 &&& 31))), .int e1_.1, .int e1_.2])), (a_p_bytes, .inl (k 1, 160, .inl p_bytes)), (a_t, .inr (4, [.ref a_t_traits, .int t_draws, .int t_foot, .int t_point, .int t_stiff, .int t_bears, .int t_year]))]) [] (va_runS (As := [.int u2]) (rest := [.int (0 : Int32), .ref a_p]) ⟨hx, hb, hml, hown, hts⟩ (c_X3_mostOfSetting l G k tL tM sK sV H.size u2 o6 hv) (va_cwS 1 hts gX3_readSetting_X3_mostOfSetting rfl rfl rfl (by decide +kernel) ⟨Nat.le_of_ble_eq_true rfl, Nat.le_of_ble_eq_true rfl⟩) (z_preS (wc := []) [] hK hE hA hP hD hS (by decide) rfl) rfl rfl hl.1 rfl (lv_room (Nat.le_of_ble_eq_true rfl)) dX3_readSetting_32 ⟨Nat.le_refl _, Nat.le_refl _⟩) hA hP hD hS rfl rfl rfl rfl (fun H locs hP hD hS => ?_)
    obtain ⟨o7, hv, h⟩ := zb h
    refine z_goi (w2 := [(a_p, .inr (3, [.ref a_p_bytes, .int p_length, .int o7.2.1, .int o7.2.2.1, .int o7.2.2.2.1, .int o7.2.2.2.2.1, .int (p_told ||| ((1 : Int32) <<< (u2 &&& 31))), .int o7.2.2.2.2.2.1, .int o7.2.2.2.2.2.2])), (a_p_bytes, .inl (k 1, 160, .inl p_bytes)), (a_t, .inr (4, [.ref a_t_traits, .int t_draws, .int t_foot, .int t_point, .int t_stiff, .int t_bears, .int t_year]))]) [0, 1] (va_runV (As := [.int (0 : Int32), .int o6]) (rest := []) ⟨hx, hb, hml, hown, hts⟩ (c_X3_expectNumber l G k tL tM sK sV a_p a_p_bytes H.size p_length p_place p_token p_tokenPlace p_number (p_told ||| ((1 : Int32) <<< (u2 &&& 31))) e1_.1 e1_.2 p_bytes (0 : Int32) o6 o7 hv) (cwV 2 hts gX3_readSetting_X3_expectNumber rfl rfl rfl (by decide +kernel) ⟨Nat.le_of_ble_eq_true rfl, Nat.le_of_ble_eq_true rfl⟩) (z_preV (wc := [(a_p, .inr (3, [.ref a_p_bytes, .int p_length, .int p_place, .int p_token, .int p_tokenPlace, .int p_number, .int (p_told ||| ((1 : Int32) <<< (u2 &&& 31))), .int e1_.1, .int e1_.2])), (a_p_bytes, .inl (k 1, 160, .inl p_bytes))]) [0, 1] 0 3 hK hE hA hP hD hS (by decide) rfl rfl rfl) rfl rfl hl.1 rfl (lv_room (Nat.le_of_ble_eq_true rfl)) dX3_readSetting_35 ⟨Nat.le_refl _, Nat.le_refl _⟩) hA hP hD hS rfl rfl rfl rfl (fun H locs hP hD hS => ?_)
    refine lv_istore_n (lv' := [(3, .int o7.1), (0, .ref a_p), (1, .ref a_t), (2, .int u2)]) hx hb dX3_readSetting_38 rfl hl (by decide) rfl (fun ls hl => ?_)
    refine lv_aload_n hx hb dX3_readSetting_39 rfl (lv_at hl 1 rfl) ?_
    obtain ⟨o8, hv, h⟩ := zb h
    refine z_gov (w2 := [(a_p, .inr (3, [.ref a_p_bytes, .int p_length, .int o8.1, .int o8.2.1, .int o8.2.2.1, .int o8.2.2.2.1, .int (p_told ||| ((1 : Int32) <<< (u2 &&& 31))), .int o8.2.2.2.2.1, .int o8.2.2.2.2.2])), (a_p_bytes, .inl (k 1, 160, .inl p_bytes)), (a_t, .inr (4, [.ref a_t_traits, .int t_draws, .int t_foot, .int t_point, .int t_stiff, .int t_bears, .int t_year]))]) [0, 1] (va_runV (As := []) (rest := []) ⟨hx, hb, hml, hown, hts⟩ (c_X3_expectClose l G k tL tM sK sV a_p a_p_bytes H.size p_length o7.2.1 o7.2.2.1 o7.2.2.2.1 o7.2.2.2.2.1 (p_told ||| ((1 : Int32) <<< (u2 &&& 31))) o7.2.2.2.2.2.1 o7.2.2.2.2.2.2 p_bytes o8 hv) (cwV 0 hts gX3_readSetting_X3_expectClose rfl rfl rfl (by decide +kernel) ⟨Nat.le_of_ble_eq_true rfl, Nat.le_of_ble_eq_true rfl⟩) (z_preV (wc := [(a_p, .inr (3, [.ref a_p_bytes, .int p_length, .int o7.2.1, .int o7.2.2.1, .int o7.2.2.2.1, .int o7.2.2.2.2.1, .int (p_told ||| ((1 : Int32) <<< (u2 &&& 31))), .int o7.2.2.2.2.2.1, .int o7.2.2.2.2.2.2])), (a_p_bytes, .inl (k 1, 160, .inl p_bytes))]) [0, 1] 0 3 hK hE hA hP hD hS (by decide) rfl rfl rfl) rfl rfl hl.1 rfl (lv_room (Nat.le_of_ble_eq_true rfl)) dX3_readSetting_40 ⟨Nat.le_refl _, Nat.le_refl _⟩) hA hP hD hS rfl rfl rfl rfl (fun H locs hP hD hS => ?_)
    refine lv_aload_n hx hb dX3_readSetting_43 rfl (lv_at hl 1 rfl) ?_
    refine va_get (D := G) (ci := 3) (v := .int o8.2.2.2.2.1) (C := RX3) (T := TX3) (N := 9) hx hb hts iw_X3_readSetting_X3 hown hK hP 0 rfl rfl 7 (by decide) (hts (.fieldLink RX3 25 "SpireLean$Tape" "fault" "I") (List.mem_of_getElem? (i := 2) rfl)) (fun _ h9 => h9) rfl dX3_readSetting_44 ?_
    refine lv_if_eq (tgt := 51) hx hb dX3_readSetting_47 (by decide) (fun c11 => ?_) (fun c11 => ?_)
    · have h := zit c11 h
      refine lv_iload_n hx hb dX3_readSetting_51 rfl (lv_at hl 3 rfl) ?_
      refine lv_iconst (v := 4) hx hb dX3_readSetting_52 (by decide) ?_
      refine lv_icmp_ne (tgt := 69) hx hb dX3_readSetting_53 (by decide) (fun c10 => ?_) (fun c10 => ?_)
      · have h := zif c10 h
        refine lv_iload_n hx hb dX3_readSetting_69 rfl (lv_at hl 3 rfl) ?_
        refine lv_iconst (v := 5) hx hb dX3_readSetting_70 (by decide) ?_
        refine lv_icmp_ne (tgt := 82) hx hb dX3_readSetting_71 (by decide) (fun c9 => ?_) (fun c9 => ?_)
        · have h := zif c9 h
          refine lv_aload_n hx hb dX3_readSetting_82 rfl (lv_at hl 2 rfl) ?_
          refine lv_iload_n hx hb dX3_readSetting_83 rfl (lv_at hl 0 rfl) ?_
          refine va_putN (D := G) (ci := 4) (v := .int o7.1) (ty := .int) (C := RX4) (T := TX4) (N := 7) hx hb hts iw_X3_readSetting_X4 tyX4 tyX4_ok nmX4 hown hK hP hD hS 2 rfl rfl 5 (by decide) (va_Nw.use rfl (hE.1 (.fieldLinkNest RX3 89 "SpireLean$Town" "bears" "I" "SpireLean") (List.mem_of_getElem? (i := 9) rfl))) (fun _ h9 => h9) rfl (tyX4_ok 5 (by decide)) rfl rfl (Nat.le_of_ble_eq_true rfl) dX3_readSetting_84 (fun H locs hP hD hS => ?_)
          have hP : va_P G vwCl [(a_p, .inr (3, [.ref a_p_bytes, .int p_length, .int o8.1, .int o8.2.1, .int o8.2.2.1, .int o8.2.2.2.1, .int (p_told ||| ((1 : Int32) <<< (u2 &&& 31))), .int o8.2.2.2.2.1, .int o8.2.2.2.2.2])), (a_p_bytes, .inl (k 1, 160, .inl p_bytes)), (a_t, .inr (4, [.ref a_t_traits, .int t_draws, .int t_foot, .int t_point, .int t_stiff, .int o7.1, .int t_year]))] H := hP
          have hD : va_D A [(a_p, .inr (3, [.ref a_p_bytes, .int p_length, .int o8.1, .int o8.2.1, .int o8.2.2.1, .int o8.2.2.2.1, .int (p_told ||| ((1 : Int32) <<< (u2 &&& 31))), .int o8.2.2.2.2.1, .int o8.2.2.2.2.2])), (a_p_bytes, .inl (k 1, 160, .inl p_bytes)), (a_t, .inr (4, [.ref a_t_traits, .int t_draws, .int t_foot, .int t_point, .int t_stiff, .int o7.1, .int t_year]))] := hD
          have hr := (zs h)
          subst hr
          exact hret H locs ls 87 hP hS dX3_readSetting_87
        · have h := zit c9 h
          refine lv_aload_n hx hb dX3_readSetting_74 rfl (lv_at hl 2 rfl) ?_
          refine lv_iload_n hx hb dX3_readSetting_75 rfl (lv_at hl 0 rfl) ?_
          refine va_putN (D := G) (ci := 4) (v := .int o7.1) (ty := .int) (C := RX4) (T := TX4) (N := 7) hx hb hts iw_X3_readSetting_X4 tyX4 tyX4_ok nmX4 hown hK hP hD hS 2 rfl rfl 4 (by decide) (va_Nw.use rfl (hE.1 (.fieldLinkNest RX3 86 "SpireLean$Town" "stiff" "I" "SpireLean") (List.mem_of_getElem? (i := 7) rfl))) (fun _ h9 => h9) rfl (tyX4_ok 4 (by decide)) rfl rfl (Nat.le_of_ble_eq_true rfl) dX3_readSetting_76 (fun H locs hP hD hS => ?_)
          have hP : va_P G vwCl [(a_p, .inr (3, [.ref a_p_bytes, .int p_length, .int o8.1, .int o8.2.1, .int o8.2.2.1, .int o8.2.2.2.1, .int (p_told ||| ((1 : Int32) <<< (u2 &&& 31))), .int o8.2.2.2.2.1, .int o8.2.2.2.2.2])), (a_p_bytes, .inl (k 1, 160, .inl p_bytes)), (a_t, .inr (4, [.ref a_t_traits, .int t_draws, .int t_foot, .int t_point, .int o7.1, .int t_bears, .int t_year]))] H := hP
          have hD : va_D A [(a_p, .inr (3, [.ref a_p_bytes, .int p_length, .int o8.1, .int o8.2.1, .int o8.2.2.1, .int o8.2.2.2.1, .int (p_told ||| ((1 : Int32) <<< (u2 &&& 31))), .int o8.2.2.2.2.1, .int o8.2.2.2.2.2])), (a_p_bytes, .inl (k 1, 160, .inl p_bytes)), (a_t, .inr (4, [.ref a_t_traits, .int t_draws, .int t_foot, .int t_point, .int o7.1, .int t_bears, .int t_year]))] := hD
          refine lv_goto (tgt := 87) hx hb dX3_readSetting_79 (by decide) ?_
          have hr := (zs h)
          subst hr
          exact hret H locs ls 87 hP hS dX3_readSetting_87
      · have h := zit c10 h
        refine lv_aload_n hx hb dX3_readSetting_56 rfl (lv_at hl 2 rfl) ?_
        refine lv_iload_n hx hb dX3_readSetting_57 rfl (lv_at hl 0 rfl) ?_
        refine va_putN (D := G) (ci := 4) (v := .int o7.1) (ty := .int) (C := RX4) (T := TX4) (N := 7) hx hb hts iw_X3_readSetting_X4 tyX4 tyX4_ok nmX4 hown hK hP hD hS 2 rfl rfl 2 (by decide) (va_Nw.use rfl (hE.1 (.fieldLinkNest RX3 80 "SpireLean$Town" "foot" "I" "SpireLean") (List.mem_of_getElem? (i := 1) rfl))) (fun _ h9 => h9) rfl (tyX4_ok 2 (by decide)) rfl rfl (Nat.le_of_ble_eq_true rfl) dX3_readSetting_58 (fun H locs hP hD hS => ?_)
        have hP : va_P G vwCl [(a_p, .inr (3, [.ref a_p_bytes, .int p_length, .int o8.1, .int o8.2.1, .int o8.2.2.1, .int o8.2.2.2.1, .int (p_told ||| ((1 : Int32) <<< (u2 &&& 31))), .int o8.2.2.2.2.1, .int o8.2.2.2.2.2])), (a_p_bytes, .inl (k 1, 160, .inl p_bytes)), (a_t, .inr (4, [.ref a_t_traits, .int t_draws, .int o7.1, .int t_point, .int t_stiff, .int t_bears, .int t_year]))] H := hP
        have hD : va_D A [(a_p, .inr (3, [.ref a_p_bytes, .int p_length, .int o8.1, .int o8.2.1, .int o8.2.2.1, .int o8.2.2.2.1, .int (p_told ||| ((1 : Int32) <<< (u2 &&& 31))), .int o8.2.2.2.2.1, .int o8.2.2.2.2.2])), (a_p_bytes, .inl (k 1, 160, .inl p_bytes)), (a_t, .inr (4, [.ref a_t_traits, .int t_draws, .int o7.1, .int t_point, .int t_stiff, .int t_bears, .int t_year]))] := hD
        refine lv_aload_n hx hb dX3_readSetting_61 rfl (lv_at hl 2 rfl) ?_
        refine lv_iload_n hx hb dX3_readSetting_62 rfl (lv_at hl 0 rfl) ?_
        refine va_putN (D := G) (ci := 4) (v := .int o7.1) (ty := .int) (C := RX4) (T := TX4) (N := 7) hx hb hts iw_X3_readSetting_X4 tyX4 tyX4_ok nmX4 hown hK hP hD hS 2 rfl rfl 3 (by decide) (va_Nw.use rfl (hE.1 (.fieldLinkNest RX3 83 "SpireLean$Town" "point" "I" "SpireLean") (List.mem_of_getElem? (i := 5) rfl))) (fun _ h9 => h9) rfl (tyX4_ok 3 (by decide)) rfl rfl (Nat.le_of_ble_eq_true rfl) dX3_readSetting_63 (fun H locs hP hD hS => ?_)
        have hP : va_P G vwCl [(a_p, .inr (3, [.ref a_p_bytes, .int p_length, .int o8.1, .int o8.2.1, .int o8.2.2.1, .int o8.2.2.2.1, .int (p_told ||| ((1 : Int32) <<< (u2 &&& 31))), .int o8.2.2.2.2.1, .int o8.2.2.2.2.2])), (a_p_bytes, .inl (k 1, 160, .inl p_bytes)), (a_t, .inr (4, [.ref a_t_traits, .int t_draws, .int o7.1, .int o7.1, .int t_stiff, .int t_bears, .int t_year]))] H := hP
        have hD : va_D A [(a_p, .inr (3, [.ref a_p_bytes, .int p_length, .int o8.1, .int o8.2.1, .int o8.2.2.1, .int o8.2.2.2.1, .int (p_told ||| ((1 : Int32) <<< (u2 &&& 31))), .int o8.2.2.2.2.1, .int o8.2.2.2.2.2])), (a_p_bytes, .inl (k 1, 160, .inl p_bytes)), (a_t, .inr (4, [.ref a_t_traits, .int t_draws, .int o7.1, .int o7.1, .int t_stiff, .int t_bears, .int t_year]))] := hD
        refine lv_goto (tgt := 87) hx hb dX3_readSetting_66 (by decide) ?_
        have hr := (zs h)
        subst hr
        exact hret H locs ls 87 hP hS dX3_readSetting_87
    · have h := zif c11 h
      have hr := (zs h)
      subst hr
      exact hret H locs ls 50 hP hS dX3_readSetting_50
  clear h
  have h := hv
  refine lv_icmp_ne (tgt := 17) hx hb dX3_readSetting_9 (by decide) (fun c5 => ?_) (fun c5 => ?_)
  · have h := zif c5 h
    exact hJ2 _ (zs h) H locs ls hP hD hS (lv_sub hl [0, 1, 2] rfl)
  · have h := zit c5 h
    refine lv_aload_n hx hb dX3_readSetting_12 rfl (lv_at hl 0 rfl) ?_
    refine lv_iconst (v := 4) hx hb dX3_readSetting_13 (by decide) ?_
    obtain ⟨o4, hv, h⟩ := zb h
    refine z_gov (w2 := [(a_p, .inr (3, [.ref a_p_bytes, .int p_length, .int p_place, .int p_token, .int p_tokenPlace, .int p_number, .int p_told, .int o4.1, .int o4.2])), (a_p_bytes, .inl (k 1, 160, .inl p_bytes)), (a_t, .inr (4, [.ref a_t_traits, .int t_draws, .int t_foot, .int t_point, .int t_stiff, .int t_bears, .int t_year]))]) [0] (va_runV (As := [.int (4 : Int32)]) (rest := []) ⟨hx, hb, hml, hown, hts⟩ (c_X3_fail l G k tL tM sK sV a_p a_p_bytes H.size p_length p_place p_token p_tokenPlace p_number p_told p_fault p_faultPlace (4 : Int32) o4 hv) (cwV 1 hts gX3_readSetting_X3_fail rfl rfl rfl (by decide +kernel) ⟨Nat.le_of_ble_eq_true rfl, Nat.le_of_ble_eq_true rfl⟩) (z_preV (wc := [(a_p, .inr (3, [.ref a_p_bytes, .int p_length, .int p_place, .int p_token, .int p_tokenPlace, .int p_number, .int p_told, .int p_fault, .int p_faultPlace]))]) [0] 0 3 hK hE hA hP hD hS (by decide) rfl rfl rfl) rfl rfl hl.1 rfl (lv_room (Nat.le_of_ble_eq_true rfl)) dX3_readSetting_14 ⟨Nat.le_refl _, Nat.le_refl _⟩) hA hP hD hS rfl rfl rfl rfl (fun H locs hP hD hS => ?_)
    exact hJ2 _ (zs h) H locs ls hP hD hS (lv_sub hl [0, 1, 2] rfl)
theorem iw_X3_tellTo_X3 : ∀ w ∈ wsX30, w ∈ wsX3_tellTo := fun _ h => List.mem_cons_of_mem _ (List.mem_append_left _ (List.mem_append_right _ h))
set_option maxHeartbeats 4000000 in
set_option maxRecDepth 100000 in
theorem c_X3_tellTo (l : Launch) (G : va_G) (k : Nat → ClassId) (tL tM : Nat) (sK sV : Nat → Nat) (a_p : Nat) (a_p_bytes : Nat) (a_t : Nat) (a_t_traits : Nat) (sz : Nat) (p_length : Int32) (p_place : Int32) (p_token : Int32) (p_tokenPlace : Int32) (p_number : Int32) (p_told : Int32) (p_fault : Int32) (p_faultPlace : Int32) (p_bytes : Nat → Int32) (t_draws : Int32) (t_foot : Int32) (t_point : Int32) (t_stiff : Int32) (t_bears : Int32) (t_year : Int32) (t_traits : Nat → Int32) (out : Int32 × Int32 × Int32 × Int32 × Int32 × Int32 × Int32 × Int32 × Int32 × Int32 × Int32 × Int32 × Int32 × (Nat → Int32)) (h : p_X3_tellTo p_length p_token p_tokenPlace p_number p_bytes t_draws t_foot t_point t_stiff t_bears t_traits = some out) : zMi l yX3_tellTo wsX3_tellTo 6 128 G k tL tM sK sV [.ref a_p, .ref a_t] [(a_p, .inr (3, [.ref a_p_bytes, .int p_length, .int p_place, .int p_token, .int p_tokenPlace, .int p_number, .int p_told, .int p_fault, .int p_faultPlace])), (a_p_bytes, .inl (k 1, 160, .inl p_bytes)), (a_t, .inr (4, [.ref a_t_traits, .int t_draws, .int t_foot, .int t_point, .int t_stiff, .int t_bears, .int t_year])), (a_t_traits, .inl (k 0, 20, .inl t_traits))] [(a_p, .inr (3, [.ref a_p_bytes, .int p_length, .int out.2.1, .int out.2.2.1, .int out.2.2.2.1, .int out.2.2.2.2.1, .int out.2.2.2.2.2.1, .int out.2.2.2.2.2.2.1, .int out.2.2.2.2.2.2.2.1])), (a_p_bytes, .inl (k 1, 160, .inl p_bytes)), (a_t, .inr (4, [.ref a_t_traits, .int out.2.2.2.2.2.2.2.2.1, .int out.2.2.2.2.2.2.2.2.2.1, .int out.2.2.2.2.2.2.2.2.2.2.1, .int out.2.2.2.2.2.2.2.2.2.2.2.1, .int out.2.2.2.2.2.2.2.2.2.2.2.2.1, .int t_year])), (a_t_traits, .inl (k 0, 20, .inl out.2.2.2.2.2.2.2.2.2.2.2.2.2))] out.1 sz := by
  refine z_meti (cc := cX3_tellTo) (maxL := 4) (by decide) rfl (Nat.le_of_ble_eq_true rfl) ?_
  intro p e s m below meth c A Q H locs ls hx hb hml hts hown hA hK hE hret hP hD hS hl
  have hown : s.vm.findClass RX3 = some m.cls := hown
  have hl : lv_has ls 4 [(0, .ref a_p), (1, .ref a_t)] := hl
  unfold p_X3_tellTo at h
  refine lv_aload_n hx hb dX3_tellTo_0 rfl (lv_at hl 0 rfl) ?_
  refine lv_iconst (v := 0) hx hb dX3_tellTo_1 (by decide) ?_
  refine va_put (D := G) (ci := 3) (v := .int (0 : Int32)) (ty := .int) (C := RX3) (T := TX3) (N := 9) hx hb hts iw_X3_tellTo_X3 tyX3 tyX3_ok nmX3 hown hK hP hD hS 0 rfl rfl 2 (by decide) (hts (.fieldLink RX3 19 "SpireLean$Tape" "place" "I") (List.mem_of_getElem? (i := 1) rfl)) (fun _ h9 => h9) rfl (tyX3_ok 2 (by decide)) rfl rfl (Nat.le_of_ble_eq_true rfl) dX3_tellTo_2 (fun H locs hP hD hS => ?_)
  have hP : va_P G vwCl [(a_p, .inr (3, [.ref a_p_bytes, .int p_length, .int (0 : Int32), .int p_token, .int p_tokenPlace, .int p_number, .int p_told, .int p_fault, .int p_faultPlace])), (a_p_bytes, .inl (k 1, 160, .inl p_bytes)), (a_t, .inr (4, [.ref a_t_traits, .int t_draws, .int t_foot, .int t_point, .int t_stiff, .int t_bears, .int t_year])), (a_t_traits, .inl (k 0, 20, .inl t_traits))] H := hP
  have hD : va_D A [(a_p, .inr (3, [.ref a_p_bytes, .int p_length, .int (0 : Int32), .int p_token, .int p_tokenPlace, .int p_number, .int p_told, .int p_fault, .int p_faultPlace])), (a_p_bytes, .inl (k 1, 160, .inl p_bytes)), (a_t, .inr (4, [.ref a_t_traits, .int t_draws, .int t_foot, .int t_point, .int t_stiff, .int t_bears, .int t_year])), (a_t_traits, .inl (k 0, 20, .inl t_traits))] := hD
  refine lv_aload_n hx hb dX3_tellTo_5 rfl (lv_at hl 0 rfl) ?_
  refine lv_iconst (v := 0) hx hb dX3_tellTo_6 (by decide) ?_
  refine va_put (D := G) (ci := 3) (v := .int (0 : Int32)) (ty := .int) (C := RX3) (T := TX3) (N := 9) hx hb hts iw_X3_tellTo_X3 tyX3 tyX3_ok nmX3 hown hK hP hD hS 0 rfl rfl 6 (by decide) (hts (.fieldLink RX3 22 "SpireLean$Tape" "told" "I") (List.mem_of_getElem? (i := 2) rfl)) (fun _ h9 => h9) rfl (tyX3_ok 6 (by decide)) rfl rfl (Nat.le_of_ble_eq_true rfl) dX3_tellTo_7 (fun H locs hP hD hS => ?_)
  have hP : va_P G vwCl [(a_p, .inr (3, [.ref a_p_bytes, .int p_length, .int (0 : Int32), .int p_token, .int p_tokenPlace, .int p_number, .int (0 : Int32), .int p_fault, .int p_faultPlace])), (a_p_bytes, .inl (k 1, 160, .inl p_bytes)), (a_t, .inr (4, [.ref a_t_traits, .int t_draws, .int t_foot, .int t_point, .int t_stiff, .int t_bears, .int t_year])), (a_t_traits, .inl (k 0, 20, .inl t_traits))] H := hP
  have hD : va_D A [(a_p, .inr (3, [.ref a_p_bytes, .int p_length, .int (0 : Int32), .int p_token, .int p_tokenPlace, .int p_number, .int (0 : Int32), .int p_fault, .int p_faultPlace])), (a_p_bytes, .inl (k 1, 160, .inl p_bytes)), (a_t, .inr (4, [.ref a_t_traits, .int t_draws, .int t_foot, .int t_point, .int t_stiff, .int t_bears, .int t_year])), (a_t_traits, .inl (k 0, 20, .inl t_traits))] := hD
  refine lv_aload_n hx hb dX3_tellTo_10 rfl (lv_at hl 0 rfl) ?_
  refine lv_iconst (v := 0) hx hb dX3_tellTo_11 (by decide) ?_
  refine va_put (D := G) (ci := 3) (v := .int (0 : Int32)) (ty := .int) (C := RX3) (T := TX3) (N := 9) hx hb hts iw_X3_tellTo_X3 tyX3 tyX3_ok nmX3 hown hK hP hD hS 0 rfl rfl 7 (by decide) (hts (.fieldLink RX3 25 "SpireLean$Tape" "fault" "I") (List.mem_of_getElem? (i := 3) rfl)) (fun _ h9 => h9) rfl (tyX3_ok 7 (by decide)) rfl rfl (Nat.le_of_ble_eq_true rfl) dX3_tellTo_12 (fun H locs hP hD hS => ?_)
  have hP : va_P G vwCl [(a_p, .inr (3, [.ref a_p_bytes, .int p_length, .int (0 : Int32), .int p_token, .int p_tokenPlace, .int p_number, .int (0 : Int32), .int (0 : Int32), .int p_faultPlace])), (a_p_bytes, .inl (k 1, 160, .inl p_bytes)), (a_t, .inr (4, [.ref a_t_traits, .int t_draws, .int t_foot, .int t_point, .int t_stiff, .int t_bears, .int t_year])), (a_t_traits, .inl (k 0, 20, .inl t_traits))] H := hP
  have hD : va_D A [(a_p, .inr (3, [.ref a_p_bytes, .int p_length, .int (0 : Int32), .int p_token, .int p_tokenPlace, .int p_number, .int (0 : Int32), .int (0 : Int32), .int p_faultPlace])), (a_p_bytes, .inl (k 1, 160, .inl p_bytes)), (a_t, .inr (4, [.ref a_t_traits, .int t_draws, .int t_foot, .int t_point, .int t_stiff, .int t_bears, .int t_year])), (a_t_traits, .inl (k 0, 20, .inl t_traits))] := hD
  refine lv_aload_n hx hb dX3_tellTo_15 rfl (lv_at hl 0 rfl) ?_
  refine lv_iconst (v := 0) hx hb dX3_tellTo_16 (by decide) ?_
  refine va_put (D := G) (ci := 3) (v := .int (0 : Int32)) (ty := .int) (C := RX3) (T := TX3) (N := 9) hx hb hts iw_X3_tellTo_X3 tyX3 tyX3_ok nmX3 hown hK hP hD hS 0 rfl rfl 8 (by decide) (hts (.fieldLink RX3 28 "SpireLean$Tape" "faultPlace" "I") (List.mem_of_getElem? (i := 4) rfl)) (fun _ h9 => h9) rfl (tyX3_ok 8 (by decide)) rfl rfl (Nat.le_of_ble_eq_true rfl) dX3_tellTo_17 (fun H locs hP hD hS => ?_)
  have hP : va_P G vwCl [(a_p, .inr (3, [.ref a_p_bytes, .int p_length, .int (0 : Int32), .int p_token, .int p_tokenPlace, .int p_number, .int (0 : Int32), .int (0 : Int32), .int (0 : Int32)])), (a_p_bytes, .inl (k 1, 160, .inl p_bytes)), (a_t, .inr (4, [.ref a_t_traits, .int t_draws, .int t_foot, .int t_point, .int t_stiff, .int t_bears, .int t_year])), (a_t_traits, .inl (k 0, 20, .inl t_traits))] H := hP
  have hD : va_D A [(a_p, .inr (3, [.ref a_p_bytes, .int p_length, .int (0 : Int32), .int p_token, .int p_tokenPlace, .int p_number, .int (0 : Int32), .int (0 : Int32), .int (0 : Int32)])), (a_p_bytes, .inl (k 1, 160, .inl p_bytes)), (a_t, .inr (4, [.ref a_t_traits, .int t_draws, .int t_foot, .int t_point, .int t_stiff, .int t_bears, .int t_year])), (a_t_traits, .inl (k 0, 20, .inl t_traits))] := hD
  refine lv_iconst (v := 0) hx hb dX3_tellTo_20 (by decide) ?_
  refine lv_istore_n (lv' := [(2, .int (0 : Int32)), (0, .ref a_p), (1, .ref a_t)]) hx hb dX3_tellTo_21 rfl hl (by decide) rfl (fun ls hl => ?_)
  refine lv_aload_n hx hb dX3_tellTo_22 rfl (lv_at hl 1 rfl) ?_
  obtain ⟨o1, hv, h⟩ := zb h
  refine z_gov (w2 := [(a_p, .inr (3, [.ref a_p_bytes, .int p_length, .int o1.1, .int o1.2.1, .int o1.2.2.1, .int o1.2.2.2.1, .int (0 : Int32), .int o1.2.2.2.2.1, .int o1.2.2.2.2.2])), (a_p_bytes, .inl (k 1, 160, .inl p_bytes)), (a_t, .inr (4, [.ref a_t_traits, .int t_draws, .int t_foot, .int t_point, .int t_stiff, .int t_bears, .int t_year])), (a_t_traits, .inl (k 0, 20, .inl t_traits))]) [0, 1] (va_runV (As := []) (rest := []) ⟨hx, hb, hml, hown, hts⟩ (c_X3_readToken l G k tL tM sK sV a_p a_p_bytes H.size p_length (0 : Int32) p_token p_tokenPlace p_number (0 : Int32) (0 : Int32) (0 : Int32) p_bytes o1 hv) (cwV 0 hts gX3_tellTo_X3_readToken rfl rfl rfl (by decide +kernel) ⟨Nat.le_of_ble_eq_true rfl, Nat.le_of_ble_eq_true rfl⟩) (z_preV (wc := [(a_p, .inr (3, [.ref a_p_bytes, .int p_length, .int (0 : Int32), .int p_token, .int p_tokenPlace, .int p_number, .int (0 : Int32), .int (0 : Int32), .int (0 : Int32)])), (a_p_bytes, .inl (k 1, 160, .inl p_bytes))]) [0, 1] 0 3 hK hE hA hP hD hS (by decide) rfl rfl rfl) rfl rfl hl.1 rfl (lv_room (Nat.le_of_ble_eq_true rfl)) dX3_tellTo_23 ⟨Nat.le_refl _, Nat.le_refl _⟩) hA hP hD hS rfl rfl rfl rfl (fun H locs hP hD hS => ?_)
  obtain ⟨e6, hv, h⟩ := zb h
  have hJ5 : ∀ (e6_ : Int32 × Int32 × Int32 × Int32 × Int32 × Int32 × Int32 × Int32 × Int32 × Int32 × Int32 × Int32 × Int32 × (Nat → Int32)), e6_ = e6 → zW p l e (zR 6 128) s m ([.ref a_p, .ref a_t] : List Value).toArray below meth c Q 4 A G [(a_p, .inr (3, [.ref a_p_bytes, .int p_length, .int e6_.2.1, .int e6_.2.2.1, .int e6_.2.2.2.1, .int e6_.2.2.2.2.1, .int e6_.2.2.2.2.2.1, .int e6_.2.2.2.2.2.2.1, .int e6_.2.2.2.2.2.2.2.1])), (a_p_bytes, .inl (k 1, 160, .inl p_bytes)), (a_t, .inr (4, [.ref a_t_traits, .int e6_.2.2.2.2.2.2.2.2.1, .int e6_.2.2.2.2.2.2.2.2.2.1, .int e6_.2.2.2.2.2.2.2.2.2.2.1, .int e6_.2.2.2.2.2.2.2.2.2.2.2.1, .int e6_.2.2.2.2.2.2.2.2.2.2.2.2.1, .int t_year])), (a_t_traits, .inl (k 0, 20, .inl e6_.2.2.2.2.2.2.2.2.2.2.2.2.2))] [(2, .int e6_.1)] 96 [] := by
    intro e6_ hz
    subst hz
    intro H locs ls hP hD hS hl
    refine lv_iload_n hx hb dX3_tellTo_96 rfl (lv_at hl 0 rfl) ?_
    have hr := (zs h)
    subst hr
    exact hret H locs ls 97 hP hS dX3_tellTo_97
  refine z_lpW (Wh := fun (x2 : Int32 × Int32 × Int32 × Int32 × Int32 × Int32 × Int32 × Int32 × Int32 × Int32 × Int32 × Int32 × Int32 × (Nat → Int32)) => zW p l e (zR 6 128) s m ([.ref a_p, .ref a_t] : List Value).toArray below meth c Q 4 A G [(a_p, .inr (3, [.ref a_p_bytes, .int p_length, .int x2.2.1, .int x2.2.2.1, .int x2.2.2.2.1, .int x2.2.2.2.2.1, .int x2.2.2.2.2.2.1, .int x2.2.2.2.2.2.2.1, .int x2.2.2.2.2.2.2.2.1])), (a_p_bytes, .inl (k 1, 160, .inl p_bytes)), (a_t, .inr (4, [.ref a_t_traits, .int x2.2.2.2.2.2.2.2.2.1, .int x2.2.2.2.2.2.2.2.2.2.1, .int x2.2.2.2.2.2.2.2.2.2.2.1, .int x2.2.2.2.2.2.2.2.2.2.2.2.1, .int x2.2.2.2.2.2.2.2.2.2.2.2.2.1, .int t_year])), (a_t_traits, .inl (k 0, 20, .inl x2.2.2.2.2.2.2.2.2.2.2.2.2.2))] [(0, .ref a_p), (1, .ref a_t), (2, .int x2.1)] 26 []) ?_ 1000 _ hv H locs ls hP hD hS (lv_sub hl [1, 2, 0] rfl)
  clear h
  intro x2 o h hC3 hX4 H locs ls hP hD hS hl
  unfold p_X3_tellTo_b26 at h
  refine lv_aload_n hx hb dX3_tellTo_26 rfl (lv_at hl 0 rfl) ?_
  refine va_get (D := G) (ci := 3) (v := .int x2.2.2.2.2.2.2.1) (C := RX3) (T := TX3) (N := 9) hx hb hts iw_X3_tellTo_X3 hown hK hP 0 rfl rfl 7 (by decide) (hts (.fieldLink RX3 25 "SpireLean$Tape" "fault" "I") (List.mem_of_getElem? (i := 3) rfl)) (fun _ h9 => h9) rfl dX3_tellTo_27 ?_
  refine lv_if_ne (tgt := 96) hx hb dX3_tellTo_30 (by decide) (fun c20 => ?_) (fun c20 => ?_)
  · have h := zif c20 h
    exact hJ5 _ (hX4 _ (zs h)) H locs ls hP hD hS (lv_sub hl [2] rfl)
  · have h := zit c20 h
    refine lv_aload_n hx hb dX3_tellTo_33 rfl (lv_at hl 0 rfl) ?_
    refine va_get (D := G) (ci := 3) (v := .int x2.2.2.1) (C := RX3) (T := TX3) (N := 9) hx hb hts iw_X3_tellTo_X3 hown hK hP 0 rfl rfl 3 (by decide) (hts (.fieldLink RX3 34 "SpireLean$Tape" "token" "I") (List.mem_of_getElem? (i := 5) rfl)) (fun _ h9 => h9) rfl dX3_tellTo_34 ?_
    refine lv_if_eq (tgt := 96) hx hb dX3_tellTo_37 (by decide) (fun c19 => ?_) (fun c19 => ?_)
    · have h := zit c19 h
      exact hJ5 _ (hX4 _ (zs h)) H locs ls hP hD hS (lv_sub hl [2] rfl)
    · have h := zif c19 h
      refine lv_iload_n hx hb dX3_tellTo_40 rfl (lv_at hl 2 rfl) ?_
      refine lv_sipush (v := 160) hx hb dX3_tellTo_41 (by decide) ?_
      refine lv_icmp_ge (tgt := 96) hx hb dX3_tellTo_44 (by decide) (fun c18 => ?_) (fun c18 => ?_)
      · have h := zit c18 h
        exact hJ5 _ (hX4 _ (zs h)) H locs ls hP hD hS (lv_sub hl [2] rfl)
      · have h := zif c18 h
        refine lv_aload_n hx hb dX3_tellTo_47 rfl (lv_at hl 0 rfl) ?_
        obtain ⟨o8, hv, h⟩ := zb h
        refine z_goi (w2 := [(a_p, .inr (3, [.ref a_p_bytes, .int p_length, .int x2.2.1, .int x2.2.2.1, .int x2.2.2.2.1, .int x2.2.2.2.2.1, .int x2.2.2.2.2.2.1, .int x2.2.2.2.2.2.2.1, .int x2.2.2.2.2.2.2.2.1])), (a_p_bytes, .inl (k 1, 160, .inl p_bytes)), (a_t, .inr (4, [.ref a_t_traits, .int x2.2.2.2.2.2.2.2.2.1, .int x2.2.2.2.2.2.2.2.2.2.1, .int x2.2.2.2.2.2.2.2.2.2.2.1, .int x2.2.2.2.2.2.2.2.2.2.2.2.1, .int x2.2.2.2.2.2.2.2.2.2.2.2.2.1, .int t_year])), (a_t_traits, .inl (k 0, 20, .inl x2.2.2.2.2.2.2.2.2.2.2.2.2.2))]) [0, 1] (va_runV (As := []) (rest := []) ⟨hx, hb, hml, hown, hts⟩ (c_X3_wordOfToken l G k tL tM sK sV a_p a_p_bytes H.size p_length x2.2.1 x2.2.2.1 x2.2.2.2.1 x2.2.2.2.2.1 x2.2.2.2.2.2.1 x2.2.2.2.2.2.2.1 x2.2.2.2.2.2.2.2.1 p_bytes o8 hv) (cwV 0 hts gX3_tellTo_X3_wordOfToken rfl rfl rfl (by decide +kernel) ⟨Nat.le_of_ble_eq_true rfl, Nat.le_of_ble_eq_true rfl⟩) (z_preV (wc := [(a_p, .inr (3, [.ref a_p_bytes, .int p_length, .int x2.2.1, .int x2.2.2.1, .int x2.2.2.2.1, .int x2.2.2.2.2.1, .int x2.2.2.2.2.2.1, .int x2.2.2.2.2.2.2.1, .int x2.2.2.2.2.2.2.2.1])), (a_p_bytes, .inl (k 1, 160, .inl p_bytes))]) [0, 1] 0 3 hK hE hA hP hD hS (by decide) rfl rfl rfl) rfl rfl hl.1 rfl (lv_room (Nat.le_of_ble_eq_true rfl)) dX3_tellTo_48 ⟨Nat.le_refl _, Nat.le_refl _⟩) hA hP hD hS rfl rfl rfl rfl (fun H locs hP hD hS => ?_)
        refine lv_istore_n (lv' := [(3, .int o8), (0, .ref a_p), (1, .ref a_t), (2, .int x2.1)]) hx hb dX3_tellTo_51 rfl hl (by decide) rfl (fun ls hl => ?_)
        refine lv_iload_n hx hb dX3_tellTo_52 rfl (lv_at hl 0 rfl) ?_
        refine lv_bipush (v := (-4)) hx hb dX3_tellTo_53 (by decide) ?_
        obtain ⟨e9, hv, h⟩ := zb h
        have hJ10 : ∀ (e9_ : Int32 × Int32 × Int32 × Int32 × Int32 × Int32 × Int32 × Int32 × Int32 × Int32 × Int32 × Int32 × (Nat → Int32)), e9_ = e9 → zW p l e (zR 6 128) s m ([.ref a_p, .ref a_t] : List Value).toArray below meth c Q 4 A G [(a_p, .inr (3, [.ref a_p_bytes, .int p_length, .int e9_.1, .int e9_.2.1, .int e9_.2.2.1, .int e9_.2.2.2.1, .int e9_.2.2.2.2.1, .int e9_.2.2.2.2.2.1, .int e9_.2.2.2.2.2.2.1])), (a_p_bytes, .inl (k 1, 160, .inl p_bytes)), (a_t, .inr (4, [.ref a_t_traits, .int e9_.2.2.2.2.2.2.2.1, .int e9_.2.2.2.2.2.2.2.2.1, .int e9_.2.2.2.2.2.2.2.2.2.1, .int e9_.2.2.2.2.2.2.2.2.2.2.1, .int e9_.2.2.2.2.2.2.2.2.2.2.2.1, .int t_year])), (a_t_traits, .inl (k 0, 20, .inl e9_.2.2.2.2.2.2.2.2.2.2.2.2))] [(0, .ref a_p), (1, .ref a_t), (2, .int x2.1)] 86 [] := by
          intro e9_ hz
          subst hz
          intro H locs ls hP hD hS hl
          refine lv_iinc (v := x2.1 + (1 : Int32)) (lv' := [(2, .int (x2.1 + (1 : Int32))), (0, .ref a_p), (1, .ref a_t)]) hx hb dX3_tellTo_86 hl (k := 2) rfl rfl (by decide) rfl (fun ls hl => ?_)
          refine lv_aload_n hx hb dX3_tellTo_89 rfl (lv_at hl 1 rfl) ?_
          obtain ⟨o17, hv, h⟩ := zb h
          refine z_gov (w2 := [(a_p, .inr (3, [.ref a_p_bytes, .int p_length, .int o17.1, .int o17.2.1, .int o17.2.2.1, .int o17.2.2.2.1, .int e9_.2.2.2.2.1, .int o17.2.2.2.2.1, .int o17.2.2.2.2.2])), (a_p_bytes, .inl (k 1, 160, .inl p_bytes)), (a_t, .inr (4, [.ref a_t_traits, .int e9_.2.2.2.2.2.2.2.1, .int e9_.2.2.2.2.2.2.2.2.1, .int e9_.2.2.2.2.2.2.2.2.2.1, .int e9_.2.2.2.2.2.2.2.2.2.2.1, .int e9_.2.2.2.2.2.2.2.2.2.2.2.1, .int t_year])), (a_t_traits, .inl (k 0, 20, .inl e9_.2.2.2.2.2.2.2.2.2.2.2.2))]) [0, 1] (va_runV (As := []) (rest := []) ⟨hx, hb, hml, hown, hts⟩ (c_X3_readToken l G k tL tM sK sV a_p a_p_bytes H.size p_length e9_.1 e9_.2.1 e9_.2.2.1 e9_.2.2.2.1 e9_.2.2.2.2.1 e9_.2.2.2.2.2.1 e9_.2.2.2.2.2.2.1 p_bytes o17 hv) (cwV 0 hts gX3_tellTo_X3_readToken rfl rfl rfl (by decide +kernel) ⟨Nat.le_of_ble_eq_true rfl, Nat.le_of_ble_eq_true rfl⟩) (z_preV (wc := [(a_p, .inr (3, [.ref a_p_bytes, .int p_length, .int e9_.1, .int e9_.2.1, .int e9_.2.2.1, .int e9_.2.2.2.1, .int e9_.2.2.2.2.1, .int e9_.2.2.2.2.2.1, .int e9_.2.2.2.2.2.2.1])), (a_p_bytes, .inl (k 1, 160, .inl p_bytes))]) [0, 1] 0 3 hK hE hA hP hD hS (by decide) rfl rfl rfl) rfl rfl hl.1 rfl (lv_room (Nat.le_of_ble_eq_true rfl)) dX3_tellTo_90 ⟨Nat.le_refl _, Nat.le_refl _⟩) hA hP hD hS rfl rfl rfl rfl (fun H locs hP hD hS => ?_)
          refine lv_goto (tgt := 26) hx hb dX3_tellTo_93 (by decide) ?_
          exact hC3 _ (zs h) H locs ls hP hD hS (lv_sub hl [1, 2, 0] rfl)
        clear h
        have h := hv
        refine lv_icmp_ne (tgt := 66) hx hb dX3_tellTo_55 (by decide) (fun c16 => ?_) (fun c16 => ?_)
        · have h := zif c16 h
          refine lv_iload_n hx hb dX3_tellTo_66 rfl (lv_at hl 0 rfl) ?_
          refine lv_iconst (v := 4) hx hb dX3_tellTo_67 (by decide) ?_
          refine lv_icmp_ge (tgt := 80) hx hb dX3_tellTo_68 (by decide) (fun c14 => ?_) (fun c14 => ?_)
          · have h := zit c14 h
            refine lv_aload_n hx hb dX3_tellTo_80 rfl (lv_at hl 1 rfl) ?_
            refine lv_aload_n hx hb dX3_tellTo_81 rfl (lv_at hl 2 rfl) ?_
            refine lv_iload_n hx hb dX3_tellTo_82 rfl (lv_at hl 0 rfl) ?_
            obtain ⟨o12, hv, h⟩ := zb h
            refine z_gov (w2 := [(a_p, .inr (3, [.ref a_p_bytes, .int p_length, .int o12.1, .int o12.2.1, .int o12.2.2.1, .int o12.2.2.2.1, .int o12.2.2.2.2.1, .int o12.2.2.2.2.2.1, .int o12.2.2.2.2.2.2.1])), (a_p_bytes, .inl (k 1, 160, .inl p_bytes)), (a_t, .inr (4, [.ref a_t_traits, .int x2.2.2.2.2.2.2.2.2.1, .int o12.2.2.2.2.2.2.2.1, .int o12.2.2.2.2.2.2.2.2.1, .int o12.2.2.2.2.2.2.2.2.2.1, .int o12.2.2.2.2.2.2.2.2.2.2, .int t_year])), (a_t_traits, .inl (k 0, 20, .inl x2.2.2.2.2.2.2.2.2.2.2.2.2.2))]) [0, 1, 2] (va_runV (As := [.ref a_t, .int o8]) (rest := []) ⟨hx, hb, hml, hown, hts⟩ (c_X3_readSetting l G k tL tM sK sV a_p a_p_bytes a_t a_t_traits H.size p_length x2.2.1 x2.2.2.1 x2.2.2.2.1 x2.2.2.2.2.1 x2.2.2.2.2.2.1 x2.2.2.2.2.2.2.1 x2.2.2.2.2.2.2.2.1 p_bytes x2.2.2.2.2.2.2.2.2.1 x2.2.2.2.2.2.2.2.2.2.1 x2.2.2.2.2.2.2.2.2.2.2.1 x2.2.2.2.2.2.2.2.2.2.2.2.1 x2.2.2.2.2.2.2.2.2.2.2.2.2.1 t_year o8 o12 hv) (cwV 2 hts gX3_tellTo_X3_readSetting rfl rfl rfl (by decide +kernel) ⟨Nat.le_of_ble_eq_true rfl, Nat.le_of_ble_eq_true rfl⟩) (z_preV (wc := [(a_p, .inr (3, [.ref a_p_bytes, .int p_length, .int x2.2.1, .int x2.2.2.1, .int x2.2.2.2.1, .int x2.2.2.2.2.1, .int x2.2.2.2.2.2.1, .int x2.2.2.2.2.2.2.1, .int x2.2.2.2.2.2.2.2.1])), (a_p_bytes, .inl (k 1, 160, .inl p_bytes)), (a_t, .inr (4, [.ref a_t_traits, .int x2.2.2.2.2.2.2.2.2.1, .int x2.2.2.2.2.2.2.2.2.2.1, .int x2.2.2.2.2.2.2.2.2.2.2.1, .int x2.2.2.2.2.2.2.2.2.2.2.2.1, .int x2.2.2.2.2.2.2.2.2.2.2.2.2.1, .int t_year]))]) [0, 1, 2] 0 3 hK hE hA hP hD hS (by decide) rfl rfl rfl) rfl rfl hl.1 rfl (lv_room (Nat.le_of_ble_eq_true rfl)) dX3_tellTo_83 ⟨Nat.le_refl _, Nat.le_refl _⟩) hA hP hD hS rfl rfl rfl rfl (fun H locs hP hD hS => ?_)
            exact hJ10 _ (zs h) H locs ls hP hD hS (lv_sub hl [1, 2, 3] rfl)
          · have h := zif c14 h
            refine lv_aload_n hx hb dX3_tellTo_71 rfl (lv_at hl 1 rfl) ?_
            refine lv_aload_n hx hb dX3_tellTo_72 rfl (lv_at hl 2 rfl) ?_
            refine lv_iload_n hx hb dX3_tellTo_73 rfl (lv_at hl 0 rfl) ?_
            obtain ⟨o13, hv, h⟩ := zb h
            refine z_gov (w2 := [(a_p, .inr (3, [.ref a_p_bytes, .int p_length, .int o13.1, .int o13.2.1, .int o13.2.2.1, .int o13.2.2.2.1, .int x2.2.2.2.2.2.1, .int o13.2.2.2.2.1, .int o13.2.2.2.2.2.1])), (a_p_bytes, .inl (k 1, 160, .inl p_bytes)), (a_t, .inr (4, [.ref a_t_traits, .int o13.2.2.2.2.2.2.1, .int x2.2.2.2.2.2.2.2.2.2.1, .int x2.2.2.2.2.2.2.2.2.2.2.1, .int x2.2.2.2.2.2.2.2.2.2.2.2.1, .int x2.2.2.2.2.2.2.2.2.2.2.2.2.1, .int t_year])), (a_t_traits, .inl (k 0, 20, .inl o13.2.2.2.2.2.2.2))]) [0, 1, 2, 3] (va_runV (As := [.ref a_t, .int o8]) (rest := []) ⟨hx, hb, hml, hown, hts⟩ (c_X3_readDraw l G k tL tM sK sV a_p a_p_bytes a_t a_t_traits H.size p_length x2.2.1 x2.2.2.1 x2.2.2.2.1 x2.2.2.2.2.1 x2.2.2.2.2.2.1 x2.2.2.2.2.2.2.1 x2.2.2.2.2.2.2.2.1 p_bytes x2.2.2.2.2.2.2.2.2.1 x2.2.2.2.2.2.2.2.2.2.1 x2.2.2.2.2.2.2.2.2.2.2.1 x2.2.2.2.2.2.2.2.2.2.2.2.1 x2.2.2.2.2.2.2.2.2.2.2.2.2.1 t_year x2.2.2.2.2.2.2.2.2.2.2.2.2.2 o8 o13 hv) (cwV 2 hts gX3_tellTo_X3_readDraw rfl rfl rfl (by decide +kernel) ⟨Nat.le_of_ble_eq_true rfl, Nat.le_of_ble_eq_true rfl⟩) (z_preV (wc := [(a_p, .inr (3, [.ref a_p_bytes, .int p_length, .int x2.2.1, .int x2.2.2.1, .int x2.2.2.2.1, .int x2.2.2.2.2.1, .int x2.2.2.2.2.2.1, .int x2.2.2.2.2.2.2.1, .int x2.2.2.2.2.2.2.2.1])), (a_p_bytes, .inl (k 1, 160, .inl p_bytes)), (a_t, .inr (4, [.ref a_t_traits, .int x2.2.2.2.2.2.2.2.2.1, .int x2.2.2.2.2.2.2.2.2.2.1, .int x2.2.2.2.2.2.2.2.2.2.2.1, .int x2.2.2.2.2.2.2.2.2.2.2.2.1, .int x2.2.2.2.2.2.2.2.2.2.2.2.2.1, .int t_year])), (a_t_traits, .inl (k 0, 20, .inl x2.2.2.2.2.2.2.2.2.2.2.2.2.2))]) [0, 1, 2, 3] 0 3 hK hE hA hP hD hS (by decide) rfl rfl rfl) rfl rfl hl.1 rfl (lv_room (Nat.le_of_ble_eq_true rfl)) dX3_tellTo_74 ⟨Nat.le_refl _, Nat.le_refl _⟩) hA hP hD hS rfl rfl rfl rfl (fun H locs hP hD hS => ?_)
            refine lv_goto (tgt := 86) hx hb dX3_tellTo_77 (by decide) ?_
            exact hJ10 _ (zs h) H locs ls hP hD hS (lv_sub hl [1, 2, 3] rfl)
        · have h := zit c16 h
          refine lv_aload_n hx hb dX3_tellTo_58 rfl (lv_at hl 1 rfl) ?_
          refine lv_iconst (v := 2) hx hb dX3_tellTo_59 (by decide) ?_
          obtain ⟨o15, hv, h⟩ := zb h
          refine z_gov (w2 := [(a_p, .inr (3, [.ref a_p_bytes, .int p_length, .int x2.2.1, .int x2.2.2.1, .int x2.2.2.2.1, .int x2.2.2.2.2.1, .int x2.2.2.2.2.2.1, .int o15.1, .int o15.2])), (a_p_bytes, .inl (k 1, 160, .inl p_bytes)), (a_t, .inr (4, [.ref a_t_traits, .int x2.2.2.2.2.2.2.2.2.1, .int x2.2.2.2.2.2.2.2.2.2.1, .int x2.2.2.2.2.2.2.2.2.2.2.1, .int x2.2.2.2.2.2.2.2.2.2.2.2.1, .int x2.2.2.2.2.2.2.2.2.2.2.2.2.1, .int t_year])), (a_t_traits, .inl (k 0, 20, .inl x2.2.2.2.2.2.2.2.2.2.2.2.2.2))]) [0] (va_runV (As := [.int (2 : Int32)]) (rest := []) ⟨hx, hb, hml, hown, hts⟩ (c_X3_fail l G k tL tM sK sV a_p a_p_bytes H.size p_length x2.2.1 x2.2.2.1 x2.2.2.2.1 x2.2.2.2.2.1 x2.2.2.2.2.2.1 x2.2.2.2.2.2.2.1 x2.2.2.2.2.2.2.2.1 (2 : Int32) o15 hv) (cwV 1 hts gX3_tellTo_X3_fail rfl rfl rfl (by decide +kernel) ⟨Nat.le_of_ble_eq_true rfl, Nat.le_of_ble_eq_true rfl⟩) (z_preV (wc := [(a_p, .inr (3, [.ref a_p_bytes, .int p_length, .int x2.2.1, .int x2.2.2.1, .int x2.2.2.2.1, .int x2.2.2.2.2.1, .int x2.2.2.2.2.2.1, .int x2.2.2.2.2.2.2.1, .int x2.2.2.2.2.2.2.2.1]))]) [0] 0 3 hK hE hA hP hD hS (by decide) rfl rfl rfl) rfl rfl hl.1 rfl (lv_room (Nat.le_of_ble_eq_true rfl)) dX3_tellTo_60 ⟨Nat.le_refl _, Nat.le_refl _⟩) hA hP hD hS rfl rfl rfl rfl (fun H locs hP hD hS => ?_)
          refine lv_goto (tgt := 86) hx hb dX3_tellTo_63 (by decide) ?_
          exact hJ10 _ (zs h) H locs ls hP hD hS (lv_sub hl [1, 2, 3] rfl)
set_option maxHeartbeats 4000000 in
set_option maxRecDepth 100000 in
theorem c_J6_bitCount_0f7a4 (l : Launch) (G : va_G) (k : Nat → ClassId) (tL tM : Nat) (sK sV : Nat → Nat) (sz : Nat) (u1 : Int32) (out : Int32) (h : p_J6_bitCount_0f7a4 u1 = some out) : zMi l yJ6_bitCount_0f7a4 wsJ6_bitCount_0f7a4 0 0 G k tL tM sK sV [.int u1] [] [] out sz := by
  refine z_meti (cc := cJ6_bitCount_0f7a4) (maxL := 1) (by decide) rfl (Nat.le_of_ble_eq_true rfl) ?_
  intro p e s m below meth c A Q H locs ls hx hb hml hts hown hA hK hE hret hP hD hS hl
  have hown : s.vm.findClass RJ6 = some m.cls := hown
  have hl : lv_has ls 1 [(0, .int u1)] := hl
  unfold p_J6_bitCount_0f7a4 at h
  refine lv_iload_n hx hb dJ6_bitCount_0f7a4_0 rfl (lv_at hl 0 rfl) ?_
  refine lv_iload_n hx hb dJ6_bitCount_0f7a4_1 rfl (lv_at hl 0 rfl) ?_
  refine lv_iconst (v := 1) hx hb dJ6_bitCount_0f7a4_2 (by decide) ?_
  refine lv_iushr (v := (u1.toUInt32 >>> ((1 : Int32).toUInt32 &&& Int32.toUInt32 31)).toInt32) hx hb dJ6_bitCount_0f7a4_3 rfl ?_
  refine lv_ldcw hx hb hown (hts (.constant RJ6 265 (1431655765)) (List.mem_of_getElem? (i := 1) rfl)) dJ6_bitCount_0f7a4_4 ?_
  refine lv_iand hx hb dJ6_bitCount_0f7a4_7 ?_
  refine lv_isub hx hb dJ6_bitCount_0f7a4_8 ?_
  refine lv_istore_n (lv' := [(0, .int (u1 - (((u1.toUInt32 >>> ((1 : Int32).toUInt32 &&& Int32.toUInt32 31)).toInt32) &&& (1431655765 : Int32))))]) hx hb dJ6_bitCount_0f7a4_9 rfl hl (by decide) rfl (fun ls hl => ?_)
  refine lv_iload_n hx hb dJ6_bitCount_0f7a4_10 rfl (lv_at hl 0 rfl) ?_
  refine lv_ldcw hx hb hown (hts (.constant RJ6 266 (858993459)) (List.mem_of_getElem? (i := 2) rfl)) dJ6_bitCount_0f7a4_11 ?_
  refine lv_iand hx hb dJ6_bitCount_0f7a4_14 ?_
  refine lv_iload_n hx hb dJ6_bitCount_0f7a4_15 rfl (lv_at hl 0 rfl) ?_
  refine lv_iconst (v := 2) hx hb dJ6_bitCount_0f7a4_16 (by decide) ?_
  refine lv_iushr (v := ((u1 - (((u1.toUInt32 >>> ((1 : Int32).toUInt32 &&& Int32.toUInt32 31)).toInt32) &&& (1431655765 : Int32))).toUInt32 >>> ((2 : Int32).toUInt32 &&& Int32.toUInt32 31)).toInt32) hx hb dJ6_bitCount_0f7a4_17 rfl ?_
  refine lv_ldcw hx hb hown (hts (.constant RJ6 266 (858993459)) (List.mem_of_getElem? (i := 2) rfl)) dJ6_bitCount_0f7a4_18 ?_
  refine lv_iand hx hb dJ6_bitCount_0f7a4_21 ?_
  refine lv_iadd hx hb dJ6_bitCount_0f7a4_22 ?_
  refine lv_istore_n (lv' := [(0, .int (((u1 - (((u1.toUInt32 >>> ((1 : Int32).toUInt32 &&& Int32.toUInt32 31)).toInt32) &&& (1431655765 : Int32))) &&& (858993459 : Int32)) + ((((u1 - (((u1.toUInt32 >>> ((1 : Int32).toUInt32 &&& Int32.toUInt32 31)).toInt32) &&& (1431655765 : Int32))).toUInt32 >>> ((2 : Int32).toUInt32 &&& Int32.toUInt32 31)).toInt32) &&& (858993459 : Int32))))]) hx hb dJ6_bitCount_0f7a4_23 rfl hl (by decide) rfl (fun ls hl => ?_)
  refine lv_iload_n hx hb dJ6_bitCount_0f7a4_24 rfl (lv_at hl 0 rfl) ?_
  refine lv_iload_n hx hb dJ6_bitCount_0f7a4_25 rfl (lv_at hl 0 rfl) ?_
  refine lv_iconst (v := 4) hx hb dJ6_bitCount_0f7a4_26 (by decide) ?_
  refine lv_iushr (v := ((((u1 - (((u1.toUInt32 >>> ((1 : Int32).toUInt32 &&& Int32.toUInt32 31)).toInt32) &&& (1431655765 : Int32))) &&& (858993459 : Int32)) + ((((u1 - (((u1.toUInt32 >>> ((1 : Int32).toUInt32 &&& Int32.toUInt32 31)).toInt32) &&& (1431655765 : Int32))).toUInt32 >>> ((2 : Int32).toUInt32 &&& Int32.toUInt32 31)).toInt32) &&& (858993459 : Int32))).toUInt32 >>> ((4 : Int32).toUInt32 &&& Int32.toUInt32 31)).toInt32) hx hb dJ6_bitCount_0f7a4_27 rfl ?_
  refine lv_iadd hx hb dJ6_bitCount_0f7a4_28 ?_
  refine lv_ldcw hx hb hown (hts (.constant RJ6 267 (252645135)) (List.mem_of_getElem? (i := 3) rfl)) dJ6_bitCount_0f7a4_29 ?_
  refine lv_iand hx hb dJ6_bitCount_0f7a4_32 ?_
  refine lv_istore_n (lv' := [(0, .int (((((u1 - (((u1.toUInt32 >>> ((1 : Int32).toUInt32 &&& Int32.toUInt32 31)).toInt32) &&& (1431655765 : Int32))) &&& (858993459 : Int32)) + ((((u1 - (((u1.toUInt32 >>> ((1 : Int32).toUInt32 &&& Int32.toUInt32 31)).toInt32) &&& (1431655765 : Int32))).toUInt32 >>> ((2 : Int32).toUInt32 &&& Int32.toUInt32 31)).toInt32) &&& (858993459 : Int32))) + (((((u1 - (((u1.toUInt32 >>> ((1 : Int32).toUInt32 &&& Int32.toUInt32 31)).toInt32) &&& (1431655765 : Int32))) &&& (858993459 : Int32)) + ((((u1 - (((u1.toUInt32 >>> ((1 : Int32).toUInt32 &&& Int32.toUInt32 31)).toInt32) &&& (1431655765 : Int32))).toUInt32 >>> ((2 : Int32).toUInt32 &&& Int32.toUInt32 31)).toInt32) &&& (858993459 : Int32))).toUInt32 >>> ((4 : Int32).toUInt32 &&& Int32.toUInt32 31)).toInt32)) &&& (252645135 : Int32)))]) hx hb dJ6_bitCount_0f7a4_33 rfl hl (by decide) rfl (fun ls hl => ?_)
  refine lv_iload_n hx hb dJ6_bitCount_0f7a4_34 rfl (lv_at hl 0 rfl) ?_
  refine lv_iload_n hx hb dJ6_bitCount_0f7a4_35 rfl (lv_at hl 0 rfl) ?_
  refine lv_bipush (v := 8) hx hb dJ6_bitCount_0f7a4_36 (by decide) ?_
  refine lv_iushr (v := ((((((u1 - (((u1.toUInt32 >>> ((1 : Int32).toUInt32 &&& Int32.toUInt32 31)).toInt32) &&& (1431655765 : Int32))) &&& (858993459 : Int32)) + ((((u1 - (((u1.toUInt32 >>> ((1 : Int32).toUInt32 &&& Int32.toUInt32 31)).toInt32) &&& (1431655765 : Int32))).toUInt32 >>> ((2 : Int32).toUInt32 &&& Int32.toUInt32 31)).toInt32) &&& (858993459 : Int32))) + (((((u1 - (((u1.toUInt32 >>> ((1 : Int32).toUInt32 &&& Int32.toUInt32 31)).toInt32) &&& (1431655765 : Int32))) &&& (858993459 : Int32)) + ((((u1 - (((u1.toUInt32 >>> ((1 : Int32).toUInt32 &&& Int32.toUInt32 31)).toInt32) &&& (1431655765 : Int32))).toUInt32 >>> ((2 : Int32).toUInt32 &&& Int32.toUInt32 31)).toInt32) &&& (858993459 : Int32))).toUInt32 >>> ((4 : Int32).toUInt32 &&& Int32.toUInt32 31)).toInt32)) &&& (252645135 : Int32)).toUInt32 >>> ((8 : Int32).toUInt32 &&& Int32.toUInt32 31)).toInt32) hx hb dJ6_bitCount_0f7a4_38 rfl ?_
  refine lv_iadd hx hb dJ6_bitCount_0f7a4_39 ?_
  refine lv_istore_n (lv' := [(0, .int ((((((u1 - (((u1.toUInt32 >>> ((1 : Int32).toUInt32 &&& Int32.toUInt32 31)).toInt32) &&& (1431655765 : Int32))) &&& (858993459 : Int32)) + ((((u1 - (((u1.toUInt32 >>> ((1 : Int32).toUInt32 &&& Int32.toUInt32 31)).toInt32) &&& (1431655765 : Int32))).toUInt32 >>> ((2 : Int32).toUInt32 &&& Int32.toUInt32 31)).toInt32) &&& (858993459 : Int32))) + (((((u1 - (((u1.toUInt32 >>> ((1 : Int32).toUInt32 &&& Int32.toUInt32 31)).toInt32) &&& (1431655765 : Int32))) &&& (858993459 : Int32)) + ((((u1 - (((u1.toUInt32 >>> ((1 : Int32).toUInt32 &&& Int32.toUInt32 31)).toInt32) &&& (1431655765 : Int32))).toUInt32 >>> ((2 : Int32).toUInt32 &&& Int32.toUInt32 31)).toInt32) &&& (858993459 : Int32))).toUInt32 >>> ((4 : Int32).toUInt32 &&& Int32.toUInt32 31)).toInt32)) &&& (252645135 : Int32)) + (((((((u1 - (((u1.toUInt32 >>> ((1 : Int32).toUInt32 &&& Int32.toUInt32 31)).toInt32) &&& (1431655765 : Int32))) &&& (858993459 : Int32)) + ((((u1 - (((u1.toUInt32 >>> ((1 : Int32).toUInt32 &&& Int32.toUInt32 31)).toInt32) &&& (1431655765 : Int32))).toUInt32 >>> ((2 : Int32).toUInt32 &&& Int32.toUInt32 31)).toInt32) &&& (858993459 : Int32))) + (((((u1 - (((u1.toUInt32 >>> ((1 : Int32).toUInt32 &&& Int32.toUInt32 31)).toInt32) &&& (1431655765 : Int32))) &&& (858993459 : Int32)) + ((((u1 - (((u1.toUInt32 >>> ((1 : Int32).toUInt32 &&& Int32.toUInt32 31)).toInt32) &&& (1431655765 : Int32))).toUInt32 >>> ((2 : Int32).toUInt32 &&& Int32.toUInt32 31)).toInt32) &&& (858993459 : Int32))).toUInt32 >>> ((4 : Int32).toUInt32 &&& Int32.toUInt32 31)).toInt32)) &&& (252645135 : Int32)).toUInt32 >>> ((8 : Int32).toUInt32 &&& Int32.toUInt32 31)).toInt32)))]) hx hb dJ6_bitCount_0f7a4_40 rfl hl (by decide) rfl (fun ls hl => ?_)
  refine lv_iload_n hx hb dJ6_bitCount_0f7a4_41 rfl (lv_at hl 0 rfl) ?_
  refine lv_iload_n hx hb dJ6_bitCount_0f7a4_42 rfl (lv_at hl 0 rfl) ?_
  refine lv_bipush (v := 16) hx hb dJ6_bitCount_0f7a4_43 (by decide) ?_
  refine lv_iushr (v := (((((((u1 - (((u1.toUInt32 >>> ((1 : Int32).toUInt32 &&& Int32.toUInt32 31)).toInt32) &&& (1431655765 : Int32))) &&& (858993459 : Int32)) + ((((u1 - (((u1.toUInt32 >>> ((1 : Int32).toUInt32 &&& Int32.toUInt32 31)).toInt32) &&& (1431655765 : Int32))).toUInt32 >>> ((2 : Int32).toUInt32 &&& Int32.toUInt32 31)).toInt32) &&& (858993459 : Int32))) + (((((u1 - (((u1.toUInt32 >>> ((1 : Int32).toUInt32 &&& Int32.toUInt32 31)).toInt32) &&& (1431655765 : Int32))) &&& (858993459 : Int32)) + ((((u1 - (((u1.toUInt32 >>> ((1 : Int32).toUInt32 &&& Int32.toUInt32 31)).toInt32) &&& (1431655765 : Int32))).toUInt32 >>> ((2 : Int32).toUInt32 &&& Int32.toUInt32 31)).toInt32) &&& (858993459 : Int32))).toUInt32 >>> ((4 : Int32).toUInt32 &&& Int32.toUInt32 31)).toInt32)) &&& (252645135 : Int32)) + (((((((u1 - (((u1.toUInt32 >>> ((1 : Int32).toUInt32 &&& Int32.toUInt32 31)).toInt32) &&& (1431655765 : Int32))) &&& (858993459 : Int32)) + ((((u1 - (((u1.toUInt32 >>> ((1 : Int32).toUInt32 &&& Int32.toUInt32 31)).toInt32) &&& (1431655765 : Int32))).toUInt32 >>> ((2 : Int32).toUInt32 &&& Int32.toUInt32 31)).toInt32) &&& (858993459 : Int32))) + (((((u1 - (((u1.toUInt32 >>> ((1 : Int32).toUInt32 &&& Int32.toUInt32 31)).toInt32) &&& (1431655765 : Int32))) &&& (858993459 : Int32)) + ((((u1 - (((u1.toUInt32 >>> ((1 : Int32).toUInt32 &&& Int32.toUInt32 31)).toInt32) &&& (1431655765 : Int32))).toUInt32 >>> ((2 : Int32).toUInt32 &&& Int32.toUInt32 31)).toInt32) &&& (858993459 : Int32))).toUInt32 >>> ((4 : Int32).toUInt32 &&& Int32.toUInt32 31)).toInt32)) &&& (252645135 : Int32)).toUInt32 >>> ((8 : Int32).toUInt32 &&& Int32.toUInt32 31)).toInt32)).toUInt32 >>> ((16 : Int32).toUInt32 &&& Int32.toUInt32 31)).toInt32) hx hb dJ6_bitCount_0f7a4_45 rfl ?_
  refine lv_iadd hx hb dJ6_bitCount_0f7a4_46 ?_
  refine lv_istore_n (lv' := [(0, .int (((((((u1 - (((u1.toUInt32 >>> ((1 : Int32).toUInt32 &&& Int32.toUInt32 31)).toInt32) &&& (1431655765 : Int32))) &&& (858993459 : Int32)) + ((((u1 - (((u1.toUInt32 >>> ((1 : Int32).toUInt32 &&& Int32.toUInt32 31)).toInt32) &&& (1431655765 : Int32))).toUInt32 >>> ((2 : Int32).toUInt32 &&& Int32.toUInt32 31)).toInt32) &&& (858993459 : Int32))) + (((((u1 - (((u1.toUInt32 >>> ((1 : Int32).toUInt32 &&& Int32.toUInt32 31)).toInt32) &&& (1431655765 : Int32))) &&& (858993459 : Int32)) + ((((u1 - (((u1.toUInt32 >>> ((1 : Int32).toUInt32 &&& Int32.toUInt32 31)).toInt32) &&& (1431655765 : Int32))).toUInt32 >>> ((2 : Int32).toUInt32 &&& Int32.toUInt32 31)).toInt32) &&& (858993459 : Int32))).toUInt32 >>> ((4 : Int32).toUInt32 &&& Int32.toUInt32 31)).toInt32)) &&& (252645135 : Int32)) + (((((((u1 - (((u1.toUInt32 >>> ((1 : Int32).toUInt32 &&& Int32.toUInt32 31)).toInt32) &&& (1431655765 : Int32))) &&& (858993459 : Int32)) + ((((u1 - (((u1.toUInt32 >>> ((1 : Int32).toUInt32 &&& Int32.toUInt32 31)).toInt32) &&& (1431655765 : Int32))).toUInt32 >>> ((2 : Int32).toUInt32 &&& Int32.toUInt32 31)).toInt32) &&& (858993459 : Int32))) + (((((u1 - (((u1.toUInt32 >>> ((1 : Int32).toUInt32 &&& Int32.toUInt32 31)).toInt32) &&& (1431655765 : Int32))) &&& (858993459 : Int32)) + ((((u1 - (((u1.toUInt32 >>> ((1 : Int32).toUInt32 &&& Int32.toUInt32 31)).toInt32) &&& (1431655765 : Int32))).toUInt32 >>> ((2 : Int32).toUInt32 &&& Int32.toUInt32 31)).toInt32) &&& (858993459 : Int32))).toUInt32 >>> ((4 : Int32).toUInt32 &&& Int32.toUInt32 31)).toInt32)) &&& (252645135 : Int32)).toUInt32 >>> ((8 : Int32).toUInt32 &&& Int32.toUInt32 31)).toInt32)) + ((((((((u1 - (((u1.toUInt32 >>> ((1 : Int32).toUInt32 &&& Int32.toUInt32 31)).toInt32) &&& (1431655765 : Int32))) &&& (858993459 : Int32)) + ((((u1 - (((u1.toUInt32 >>> ((1 : Int32).toUInt32 &&& Int32.toUInt32 31)).toInt32) &&& (1431655765 : Int32))).toUInt32 >>> ((2 : Int32).toUInt32 &&& Int32.toUInt32 31)).toInt32) &&& (858993459 : Int32))) + (((((u1 - (((u1.toUInt32 >>> ((1 : Int32).toUInt32 &&& Int32.toUInt32 31)).toInt32) &&& (1431655765 : Int32))) &&& (858993459 : Int32)) + ((((u1 - (((u1.toUInt32 >>> ((1 : Int32).toUInt32 &&& Int32.toUInt32 31)).toInt32) &&& (1431655765 : Int32))).toUInt32 >>> ((2 : Int32).toUInt32 &&& Int32.toUInt32 31)).toInt32) &&& (858993459 : Int32))).toUInt32 >>> ((4 : Int32).toUInt32 &&& Int32.toUInt32 31)).toInt32)) &&& (252645135 : Int32)) + (((((((u1 - (((u1.toUInt32 >>> ((1 : Int32).toUInt32 &&& Int32.toUInt32 31)).toInt32) &&& (1431655765 : Int32))) &&& (858993459 : Int32)) + ((((u1 - (((u1.toUInt32 >>> ((1 : Int32).toUInt32 &&& Int32.toUInt32 31)).toInt32) &&& (1431655765 : Int32))).toUInt32 >>> ((2 : Int32).toUInt32 &&& Int32.toUInt32 31)).toInt32) &&& (858993459 : Int32))) + (((((u1 - (((u1.toUInt32 >>> ((1 : Int32).toUInt32 &&& Int32.toUInt32 31)).toInt32) &&& (1431655765 : Int32))) &&& (858993459 : Int32)) + ((((u1 - (((u1.toUInt32 >>> ((1 : Int32).toUInt32 &&& Int32.toUInt32 31)).toInt32) &&& (1431655765 : Int32))).toUInt32 >>> ((2 : Int32).toUInt32 &&& Int32.toUInt32 31)).toInt32) &&& (858993459 : Int32))).toUInt32 >>> ((4 : Int32).toUInt32 &&& Int32.toUInt32 31)).toInt32)) &&& (252645135 : Int32)).toUInt32 >>> ((8 : Int32).toUInt32 &&& Int32.toUInt32 31)).toInt32)).toUInt32 >>> ((16 : Int32).toUInt32 &&& Int32.toUInt32 31)).toInt32)))]) hx hb dJ6_bitCount_0f7a4_47 rfl hl (by decide) rfl (fun ls hl => ?_)
  refine lv_iload_n hx hb dJ6_bitCount_0f7a4_48 rfl (lv_at hl 0 rfl) ?_
  refine lv_bipush (v := 63) hx hb dJ6_bitCount_0f7a4_49 (by decide) ?_
  refine lv_iand hx hb dJ6_bitCount_0f7a4_51 ?_
  have hr := (zs h)
  subst hr
  exact hret H locs ls 52 hP hS dJ6_bitCount_0f7a4_52
