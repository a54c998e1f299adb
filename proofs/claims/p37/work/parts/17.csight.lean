set_option maxHeartbeats 4000000 in
set_option maxRecDepth 100000 in
theorem c_X3_clear {l : Launch} {g : Gx} {h0 : Nat} {h0_numbers : Value} {h0_count : Nat} (hb_h0_count : h0_count ≤ 5) : MV l g yX3_clear cX3_clear 1 2 0 0 [.ref h0] [(h0, .inr (3, [h0_numbers, .int (nI h0_count)]))] (fun W' => W' = [(h0, .inr (3, [h0_numbers, .int 0]))]) := by
  refine MVof (by decide) (Nat.le_of_ble_eq_true rfl) ?_
  intro p e s m below meth c A ls H locs hcx hA hP hD hS hl
  obtain ⟨hx, hb, hml, hr, hlocks, hown, hts, hE, hnm⟩ := id hcx
  have hown : s.vm.findClass RX3 = some m.cls := hown
  have hK := hE.1
  have hl : lv_has ls 1 [(0, .ref h0)] := hl
  refine lv_aload_n hx hb dX3_clear_0 rfl (lv_at hl 0 rfl) ?_
  refine lv_iconst (v := 0) hx hb dX3_clear_1 (by decide) ?_
  refine va_put (D := g.1) (ci := 3) (v := Value.int 0) (ty := .int) (C := RX3) (T := TX3) (N := 2) hx hb hts inlX3 tyX3 tyX3_ok nmX3 hown hK hP hD hS 0 rfl rfl 1 (by decide) (hts _ q12_4) (fun _ h9 => h9) rfl (by decide +kernel) rfl rfl (Nat.le_of_ble_eq_true rfl) dX3_clear_2 (fun H locs hP hD hS => ?_)
  have hP : va_P g.1 vwCl [(h0, .inr (3, [h0_numbers, .int 0]))] H := hP
  have hD : va_D A [(h0, .inr (3, [h0_numbers, .int 0]))] := hD
  exact xv hx hb hr hlocks hP hD hS rfl (Nat.le_of_ble_eq_true rfl) (Nat.le_of_ble_eq_true rfl) dX3_clear_5

set_option maxHeartbeats 4000000 in
set_option maxRecDepth 100000 in
theorem c_X3_add {l : Launch} {g : Gx} {h0 nu : Nat} {h0_count : Nat} {f_nu : Nat → Int32} {p0 : Int32} (hb_h0_count : h0_count ≤ 5) : MV l g yX3_add cX3_add 2 2 0 0 [.ref h0, .int p0] [(h0, .inr (3, [.ref nu, .int (nI h0_count)])), (nu, .inl (gI g, 5, .inl f_nu))] (fun W' => ∃ (z0 : Nat) (z1 : Nat → Int32), W' = [(h0, .inr (3, [.ref nu, .int (nI z0)])), (nu, .inl (gI g, 5, .inl z1))] ∧ z0 ≤ 5) := by
  refine MVof (by decide) (Nat.le_of_ble_eq_true rfl) ?_
  intro p e s m below meth c A ls H locs hcx hA hP hD hS hl
  obtain ⟨hx, hb, hml, hr, hlocks, hown, hts, hE, hnm⟩ := id hcx
  have hown : s.vm.findClass RX3 = some m.cls := hown
  have hK := hE.1
  have hl : lv_has ls 2 [(0, .ref h0), (1, .int p0)] := hl
  refine lv_aload_n hx hb dX3_add_0 rfl (lv_at hl 0 rfl) ?_
  refine va_get (D := g.1) (ci := 3) (v := Value.int (nI h0_count)) (C := RX3) (T := TX3) (N := 2) hx hb hts inlX3 hown hK hP 0 rfl rfl 1 (by decide) (hts _ q12_4) (fun _ h9 => h9) rfl dX3_add_1 ?_
  refine lv_aload_n hx hb dX3_add_4 rfl (lv_at hl 0 rfl) ?_
  refine va_get (D := g.1) (ci := 3) (v := Value.ref nu) (C := RX3) (T := TX3) (N := 2) hx hb hts inlX3 hown hK hP 0 rfl rfl 0 (by decide) (hts _ q7_22) (fun _ h9 => h9) rfl dX3_add_5 ?_
  refine va_alen (v := 5) hx hb hK hP 1 1 rfl rfl rfl dX3_add_8 ?_
  refine lv_icmp_ge (tgt := 32) hx hb dX3_add_9 (by decide) (fun c1 => ?_) (fun c1 => ?_)
  · have hn2 := nle (a := 5) (b := h0_count) (by omega) (by omega) c1
    exact xv hx hb hr hlocks hP hD hS ⟨(h0_count), f_nu, rfl, (by omega)⟩ (Nat.le_of_ble_eq_true rfl) (Nat.le_of_ble_eq_true rfl) dX3_add_32
  · have hn3 := nnle (a := 5) (b := h0_count) (by omega) (by omega) c1
    refine lv_aload_n hx hb dX3_add_12 rfl (lv_at hl 0 rfl) ?_
    refine va_get (D := g.1) (ci := 3) (v := Value.ref nu) (C := RX3) (T := TX3) (N := 2) hx hb hts inlX3 hown hK hP 0 rfl rfl 0 (by decide) (hts _ q7_22) (fun _ h9 => h9) rfl dX3_add_13 ?_
    refine lv_aload_n hx hb dX3_add_16 rfl (lv_at hl 0 rfl) ?_
    refine va_get (D := g.1) (ci := 3) (v := Value.int (nI h0_count)) (C := RX3) (T := TX3) (N := 2) hx hb hts inlX3 hown hK hP 0 rfl rfl 1 (by decide) (hts _ q12_4) (fun _ h9 => h9) rfl dX3_add_17 ?_
    refine lv_iload_n hx hb dX3_add_20 rfl (lv_at hl 1 rfl) ?_
    refine ia_st hx hb hK hP hD hS 1 1 rfl rfl (h0_count) rfl (by omega) (by decide) dX3_add_21 (fun f4 H locs ef4 hP hD hS => ?_)
    have hP : va_P g.1 vwCl [(h0, .inr (3, [.ref nu, .int (nI h0_count)])), (nu, .inl (gI g, 5, .inl f4))] H := hP
    have hD : va_D A [(h0, .inr (3, [.ref nu, .int (nI h0_count)])), (nu, .inl (gI g, 5, .inl f4))] := hD
    refine lv_aload_n hx hb dX3_add_22 rfl (lv_at hl 0 rfl) ?_
    refine lv_dup hx hb dX3_add_23 rfl ?_
    refine va_get (D := g.1) (ci := 3) (v := Value.int (nI h0_count)) (C := RX3) (T := TX3) (N := 2) hx hb hts inlX3 hown hK hP 0 rfl rfl 1 (by decide) (hts _ q12_4) (fun _ h9 => h9) rfl dX3_add_24 ?_
    refine lv_iconst (v := 1) hx hb dX3_add_27 (by decide) ?_
    refine lv_iadd hx hb dX3_add_28 ?_
    refine lv_tope (y := (nI (h0_count + 1))) (nI_add (h0_count) (1)) ?_
    refine va_put (D := g.1) (ci := 3) (v := Value.int (nI (h0_count + 1))) (ty := .int) (C := RX3) (T := TX3) (N := 2) hx hb hts inlX3 tyX3 tyX3_ok nmX3 hown hK hP hD hS 0 rfl rfl 1 (by decide) (hts _ q12_4) (fun _ h9 => h9) rfl (by decide +kernel) rfl rfl (Nat.le_of_ble_eq_true rfl) dX3_add_29 (fun H locs hP hD hS => ?_)
    have hP : va_P g.1 vwCl [(h0, .inr (3, [.ref nu, .int (nI (h0_count + 1))])), (nu, .inl (gI g, 5, .inl f4))] H := hP
    have hD : va_D A [(h0, .inr (3, [.ref nu, .int (nI (h0_count + 1))])), (nu, .inl (gI g, 5, .inl f4))] := hD
    exact xv hx hb hr hlocks hP hD hS ⟨(h0_count + 1), f4, rfl, (by omega)⟩ (Nat.le_of_ble_eq_true rfl) (Nat.le_of_ble_eq_true rfl) dX3_add_32

set_option maxHeartbeats 4000000 in
set_option maxRecDepth 100000 in
theorem c_X3_at {l : Launch} {g : Gx} {h0 nu : Nat} {h0_count : Nat} {f_nu : Nat → Int32} {p0 : Int32} (hb_h0_count : h0_count ≤ 5) : MI l g yX3_at cX3_at 2 (some .int) 2 0 0 [.ref h0, .int p0] [(h0, .inr (3, [.ref nu, .int (nI h0_count)])), (nu, .inl (gI g, 5, .inl f_nu))] (fun r W' => True ∧ W' = [(h0, .inr (3, [.ref nu, .int (nI h0_count)])), (nu, .inl (gI g, 5, .inl f_nu))]) := by
  refine MIof (by decide) (Nat.le_of_ble_eq_true rfl) ?_
  intro p e s m below meth c A ls H locs hcx hA hP hD hS hl
  obtain ⟨hx, hb, hml, hr, hlocks, hown, hts, hE, hnm⟩ := id hcx
  have hown : s.vm.findClass RX3 = some m.cls := hown
  have hK := hE.1
  have hl : lv_has ls 2 [(0, .ref h0), (1, .int p0)] := hl
  refine lv_iload_n hx hb dX3_at_0 rfl (lv_at hl 1 rfl) ?_
  refine lv_if_lt (tgt := 21) hx hb dX3_at_1 (by decide) (fun c1 => ?_) (fun c1 => ?_)
  · refine lv_bipush (v := (-2)) hx hb dX3_at_21 (by decide) ?_
    exact xi hx hb hr hlocks rfl hP hD hS ⟨trivial, rfl⟩ (Nat.le_of_ble_eq_true rfl) (Nat.le_of_ble_eq_true rfl) dX3_at_23
  · refine lv_iload_n hx hb dX3_at_4 rfl (lv_at hl 1 rfl) ?_
    refine lv_aload_n hx hb dX3_at_5 rfl (lv_at hl 0 rfl) ?_
    refine va_get (D := g.1) (ci := 3) (v := Value.int (nI h0_count)) (C := RX3) (T := TX3) (N := 2) hx hb hts inlX3 hown hK hP 0 rfl rfl 1 (by decide) (hts _ q12_4) (fun _ h9 => h9) rfl dX3_at_6 ?_
    refine lv_icmp_ge (tgt := 21) hx hb dX3_at_9 (by decide) (fun c2 => ?_) (fun c2 => ?_)
    · refine lv_bipush (v := (-2)) hx hb dX3_at_21 (by decide) ?_
      exact xi hx hb hr hlocks rfl hP hD hS ⟨trivial, rfl⟩ (Nat.le_of_ble_eq_true rfl) (Nat.le_of_ble_eq_true rfl) dX3_at_23
    · obtain ⟨m3, hm3, em3⟩ := inN' (B := h0_count) (by omega) c1 c2
      subst em3
      refine lv_aload_n hx hb dX3_at_12 rfl (lv_at hl 0 rfl) ?_
      refine va_get (D := g.1) (ci := 3) (v := Value.ref nu) (C := RX3) (T := TX3) (N := 2) hx hb hts inlX3 hown hK hP 0 rfl rfl 0 (by decide) (hts _ q7_22) (fun _ h9 => h9) rfl dX3_at_13 ?_
      refine lv_iload_n hx hb dX3_at_16 rfl (lv_at hl 1 rfl) ?_
      refine ia_ld hx hb hK hP 1 1 rfl rfl (m3) rfl (by omega) (by decide) dX3_at_17 ?_
      refine lv_topi (fun x4 ex4 => ?_)
      refine lv_goto (tgt := 23) hx hb dX3_at_18 (by decide) ?_
      exact xi hx hb hr hlocks rfl hP hD hS ⟨trivial, rfl⟩ (Nat.le_of_ble_eq_true rfl) (Nat.le_of_ble_eq_true rfl) dX3_at_23

set_option maxHeartbeats 4000000 in
set_option maxRecDepth 100000 in
theorem c_X6_clear {l : Launch} {g : Gx} {h0 : Nat} {h0_course : Value} {h0_trial : Value} {h0_corners : Value} {h0_guilds : Value} {h0_wasUp : Value} {h0_toldAt : Value} {h0_untoldAt : Value} {h0_untold : Value} {h0_upBehind : Value} {h0_fitting : Value} {h0_groups : Value} {h0_isWalked : Nat} {h0_count : Nat} (hb_h0_isWalked : h0_isWalked ≤ 1) (hb_h0_count : h0_count ≤ 30) : MV l g yX6_clear cX6_clear 1 2 0 0 [.ref h0] [(h0, .inr (6, [h0_course, h0_trial, h0_corners, h0_guilds, h0_wasUp, h0_toldAt, h0_untoldAt, h0_untold, h0_upBehind, h0_fitting, h0_groups, .int (nI h0_isWalked), .int (nI h0_count)]))] (fun W' => W' = [(h0, .inr (6, [h0_course, h0_trial, h0_corners, h0_guilds, h0_wasUp, h0_toldAt, h0_untoldAt, h0_untold, h0_upBehind, h0_fitting, h0_groups, .int 0, .int 0]))]) := by
  refine MVof (by decide) (Nat.le_of_ble_eq_true rfl) ?_
  intro p e s m below meth c A ls H locs hcx hA hP hD hS hl
  obtain ⟨hx, hb, hml, hr, hlocks, hown, hts, hE, hnm⟩ := id hcx
  have hown : s.vm.findClass RX6 = some m.cls := hown
  have hK := hE.1
  have hl : lv_has ls 1 [(0, .ref h0)] := hl
  refine lv_aload_n hx hb dX6_clear_0 rfl (lv_at hl 0 rfl) ?_
  refine lv_iconst (v := 0) hx hb dX6_clear_1 (by decide) ?_
  refine va_put (D := g.1) (ci := 6) (v := Value.int 0) (ty := .int) (C := RX6) (T := TX6) (N := 13) hx hb hts inlX6 tyX6 tyX6_ok nmX6 hown hK hP hD hS 0 rfl rfl 12 (by decide) (hts _ q12_9) (fun _ h9 => h9) rfl (by decide +kernel) rfl rfl (Nat.le_of_ble_eq_true rfl) dX6_clear_2 (fun H locs hP hD hS => ?_)
  have hP : va_P g.1 vwCl [(h0, .inr (6, [h0_course, h0_trial, h0_corners, h0_guilds, h0_wasUp, h0_toldAt, h0_untoldAt, h0_untold, h0_upBehind, h0_fitting, h0_groups, .int (nI h0_isWalked), .int 0]))] H := hP
  have hD : va_D A [(h0, .inr (6, [h0_course, h0_trial, h0_corners, h0_guilds, h0_wasUp, h0_toldAt, h0_untoldAt, h0_untold, h0_upBehind, h0_fitting, h0_groups, .int (nI h0_isWalked), .int 0]))] := hD
  refine lv_aload_n hx hb dX6_clear_5 rfl (lv_at hl 0 rfl) ?_
  refine lv_iconst (v := 0) hx hb dX6_clear_6 (by decide) ?_
  refine va_put (D := g.1) (ci := 6) (v := Value.int 0) (ty := .boolean) (C := RX6) (T := TX6) (N := 13) hx hb hts inlX6 tyX6 tyX6_ok nmX6 hown hK hP hD hS 0 rfl rfl 11 (by decide) (hts _ q12_10) (fun _ h9 => h9) rfl (by decide +kernel) rfl rfl (Nat.le_of_ble_eq_true rfl) dX6_clear_7 (fun H locs hP hD hS => ?_)
  have hP : va_P g.1 vwCl [(h0, .inr (6, [h0_course, h0_trial, h0_corners, h0_guilds, h0_wasUp, h0_toldAt, h0_untoldAt, h0_untold, h0_upBehind, h0_fitting, h0_groups, .int 0, .int 0]))] H := hP
  have hD : va_D A [(h0, .inr (6, [h0_course, h0_trial, h0_corners, h0_guilds, h0_wasUp, h0_toldAt, h0_untoldAt, h0_untold, h0_upBehind, h0_fitting, h0_groups, .int 0, .int 0]))] := hD
  exact xv hx hb hr hlocks hP hD hS rfl (Nat.le_of_ble_eq_true rfl) (Nat.le_of_ble_eq_true rfl) dX6_clear_10

set_option maxHeartbeats 4000000 in
set_option maxRecDepth 100000 in
theorem c_X6_takeBack {l : Launch} {g : Gx} {h0 s_untold s_untoldAt : Nat} {h0_course : Value} {h0_trial : Value} {h0_corners : Value} {h0_guilds : Value} {h0_wasUp : Value} {h0_toldAt : Value} {h0_upBehind : Value} {h0_fitting : Value} {h0_groups : Value} {h0_isWalked : Nat} {h0_count : Nat} {f_s_untold : Nat → Int32} {f_s_untoldAt : Nat → Int32} {p0 : Int32} {p1 : Int32} (hb_h0_isWalked : h0_isWalked ≤ 1) (hb_h0_count : h0_count ≤ 30) (ht_s_untold : TN 30 1 f_s_untold) : MI l g yX6_takeBack cX6_takeBack 3 (some .boolean) 2 0 0 [.ref h0, .int p0, .int p1] [(h0, .inr (6, [h0_course, h0_trial, h0_corners, h0_guilds, h0_wasUp, h0_toldAt, .ref s_untoldAt, .ref s_untold, h0_upBehind, h0_fitting, h0_groups, .int (nI h0_isWalked), .int (nI h0_count)])), (s_untold, .inl (gZ g, 30, .inl f_s_untold)), (s_untoldAt, .inl (gI g, 30, .inl f_s_untoldAt))] (fun r W' => (∃ m : Nat, m ≤ 1 ∧ nI m = r) ∧ ∃ (z0 : Nat → Int32) (z1 : Nat → Int32), W' = [(h0, .inr (6, [h0_course, h0_trial, h0_corners, h0_guilds, h0_wasUp, h0_toldAt, .ref s_untoldAt, .ref s_untold, h0_upBehind, h0_fitting, h0_groups, .int (nI h0_isWalked), .int (nI h0_count)])), (s_untold, .inl (gZ g, 30, .inl z0)), (s_untoldAt, .inl (gI g, 30, .inl z1))] ∧ TN 30 1 z0) := by
  refine MIof (by decide) (Nat.le_of_ble_eq_true rfl) ?_
  intro p e s m below meth c A ls H locs hcx hA hP hD hS hl
  obtain ⟨hx, hb, hml, hr, hlocks, hown, hts, hE, hnm⟩ := id hcx
  have hown : s.vm.findClass RX6 = some m.cls := hown
  have hK := hE.1
  have hl : lv_has ls 3 [(0, .ref h0), (1, .int p0), (2, .int p1)] := hl
  refine lv_iload_n hx hb dX6_takeBack_0 rfl (lv_at hl 1 rfl) ?_
  refine lv_if_lt (tgt := 21) hx hb dX6_takeBack_1 (by decide) (fun c1 => ?_) (fun c1 => ?_)
  · refine lv_iconst (v := 0) hx hb dX6_takeBack_21 (by decide) ?_
    exact xi hx hb hr hlocks rfl hP hD hS ⟨⟨0, by omega, rfl⟩, f_s_untold, f_s_untoldAt, rfl, ht_s_untold⟩ (Nat.le_of_ble_eq_true rfl) (Nat.le_of_ble_eq_true rfl) dX6_takeBack_22
  · refine lv_iload_n hx hb dX6_takeBack_4 rfl (lv_at hl 1 rfl) ?_
    refine lv_aload_n hx hb dX6_takeBack_5 rfl (lv_at hl 0 rfl) ?_
    refine va_get (D := g.1) (ci := 6) (v := Value.int (nI h0_count)) (C := RX6) (T := TX6) (N := 13) hx hb hts inlX6 hown hK hP 0 rfl rfl 12 (by decide) (hts _ q12_9) (fun _ h9 => h9) rfl dX6_takeBack_6 ?_
    refine lv_icmp_ge (tgt := 21) hx hb dX6_takeBack_9 (by decide) (fun c2 => ?_) (fun c2 => ?_)
    · refine lv_iconst (v := 0) hx hb dX6_takeBack_21 (by decide) ?_
      exact xi hx hb hr hlocks rfl hP hD hS ⟨⟨0, by omega, rfl⟩, f_s_untold, f_s_untoldAt, rfl, ht_s_untold⟩ (Nat.le_of_ble_eq_true rfl) (Nat.le_of_ble_eq_true rfl) dX6_takeBack_22
    · obtain ⟨m3, hm3, em3⟩ := inN' (B := h0_count) (by omega) c1 c2
      subst em3
      refine lv_aload_n hx hb dX6_takeBack_12 rfl (lv_at hl 0 rfl) ?_
      refine va_get (D := g.1) (ci := 6) (v := Value.ref s_untold) (C := RX6) (T := TX6) (N := 13) hx hb hts inlX6 hown hK hP 0 rfl rfl 7 (by decide) (hts _ q9_3) (fun _ h9 => h9) rfl dX6_takeBack_13 ?_
      refine lv_iload_n hx hb dX6_takeBack_16 rfl (lv_at hl 1 rfl) ?_
      refine za_ld hx hb hK hP 1 3 rfl rfl (m3) rfl (by omega) (by decide) dX6_takeBack_17 ?_
      obtain ⟨m4, hm4, em4⟩ := ht_s_untold (m3) (by omega)
      refine lv_tope em4 ?_
      refine lv_if_eq (tgt := 23) hx hb dX6_takeBack_18 (by decide) (fun c5 => ?_) (fun c5 => ?_)
      · have hn6 := neq (a := m4) (b := 0) (by omega) (by omega) c5
        refine lv_aload_n hx hb dX6_takeBack_23 rfl (lv_at hl 0 rfl) ?_
        refine va_get (D := g.1) (ci := 6) (v := Value.ref s_untold) (C := RX6) (T := TX6) (N := 13) hx hb hts inlX6 hown hK hP 0 rfl rfl 7 (by decide) (hts _ q9_3) (fun _ h9 => h9) rfl dX6_takeBack_24 ?_
        refine lv_iload_n hx hb dX6_takeBack_27 rfl (lv_at hl 1 rfl) ?_
        refine lv_iconst (v := 1) hx hb dX6_takeBack_28 (by decide) ?_
        refine za_st hx hb hK hP hD hS 1 3 rfl rfl (m3) rfl (by omega) (by decide) rfl dX6_takeBack_29 (fun f7 H locs ef7 hP hD hS => ?_)
        have htf7 : TN 30 1 f7 := by rw [ef7]; exact TN_upd (m := 1) ht_s_untold (by omega)
        have hP : va_P g.1 vwCl [(h0, .inr (6, [h0_course, h0_trial, h0_corners, h0_guilds, h0_wasUp, h0_toldAt, .ref s_untoldAt, .ref s_untold, h0_upBehind, h0_fitting, h0_groups, .int (nI h0_isWalked), .int (nI h0_count)])), (s_untold, .inl (gZ g, 30, .inl f7)), (s_untoldAt, .inl (gI g, 30, .inl f_s_untoldAt))] H := hP
        have hD : va_D A [(h0, .inr (6, [h0_course, h0_trial, h0_corners, h0_guilds, h0_wasUp, h0_toldAt, .ref s_untoldAt, .ref s_untold, h0_upBehind, h0_fitting, h0_groups, .int (nI h0_isWalked), .int (nI h0_count)])), (s_untold, .inl (gZ g, 30, .inl f7)), (s_untoldAt, .inl (gI g, 30, .inl f_s_untoldAt))] := hD
        refine lv_aload_n hx hb dX6_takeBack_30 rfl (lv_at hl 0 rfl) ?_
        refine va_get (D := g.1) (ci := 6) (v := Value.ref s_untoldAt) (C := RX6) (T := TX6) (N := 13) hx hb hts inlX6 hown hK hP 0 rfl rfl 6 (by decide) (hts _ q9_2) (fun _ h9 => h9) rfl dX6_takeBack_31 ?_
        refine lv_iload_n hx hb dX6_takeBack_34 rfl (lv_at hl 1 rfl) ?_
        refine lv_iload_n hx hb dX6_takeBack_35 rfl (lv_at hl 2 rfl) ?_
        refine ia_st hx hb hK hP hD hS 2 1 rfl rfl (m3) rfl (by omega) (by decide) dX6_takeBack_36 (fun f8 H locs ef8 hP hD hS => ?_)
        have hP : va_P g.1 vwCl [(h0, .inr (6, [h0_course, h0_trial, h0_corners, h0_guilds, h0_wasUp, h0_toldAt, .ref s_untoldAt, .ref s_untold, h0_upBehind, h0_fitting, h0_groups, .int (nI h0_isWalked), .int (nI h0_count)])), (s_untold, .inl (gZ g, 30, .inl f7)), (s_untoldAt, .inl (gI g, 30, .inl f8))] H := hP
        have hD : va_D A [(h0, .inr (6, [h0_course, h0_trial, h0_corners, h0_guilds, h0_wasUp, h0_toldAt, .ref s_untoldAt, .ref s_untold, h0_upBehind, h0_fitting, h0_groups, .int (nI h0_isWalked), .int (nI h0_count)])), (s_untold, .inl (gZ g, 30, .inl f7)), (s_untoldAt, .inl (gI g, 30, .inl f8))] := hD
        refine lv_iconst (v := 1) hx hb dX6_takeBack_37 (by decide) ?_
        exact xi hx hb hr hlocks rfl hP hD hS ⟨⟨1, by omega, rfl⟩, f7, f8, rfl, htf7⟩ (Nat.le_of_ble_eq_true rfl) (Nat.le_of_ble_eq_true rfl) dX6_takeBack_38
      · have hn9 := nneq (a := m4) (b := 0) (by omega) (by omega) c5
        refine lv_iconst (v := 0) hx hb dX6_takeBack_21 (by decide) ?_
        exact xi hx hb hr hlocks rfl hP hD hS ⟨⟨0, by omega, rfl⟩, f_s_untold, f_s_untoldAt, rfl, ht_s_untold⟩ (Nat.le_of_ble_eq_true rfl) (Nat.le_of_ble_eq_true rfl) dX6_takeBack_22

set_option maxHeartbeats 4000000 in
set_option maxRecDepth 100000 in
theorem c_X6_add {l : Launch} {g : Gx} {h0 s_corners s_guilds s_wasUp s_toldAt s_untold : Nat} {h0_course : Value} {h0_trial : Value} {h0_untoldAt : Value} {h0_upBehind : Value} {h0_fitting : Value} {h0_groups : Value} {h0_isWalked : Nat} {h0_count : Nat} {f_s_corners : Nat → Int32} {f_s_guilds : Nat → Int32} {f_s_wasUp : Nat → Int32} {f_s_toldAt : Nat → Int32} {f_s_untold : Nat → Int32} {p0 : Nat} {p1 : Nat} {p2 : Nat} {p3 : Int32} (hb_h0_isWalked : h0_isWalked ≤ 1) (hb_h0_count : h0_count ≤ 30) (ht_s_corners : TN 30 8 f_s_corners) (ht_s_guilds : TN 30 4 f_s_guilds) (ht_s_wasUp : TN 30 1 f_s_wasUp) (ht_s_untold : TN 30 1 f_s_untold) (hb_p0 : p0 ≤ 8) (hb_p1 : p1 ≤ 4) (hb_p2 : p2 ≤ 1) : MI l g yX6_add cX6_add 5 (some .int) 2 0 0 [.ref h0, .int (nI p0), .int (nI p1), .int (nI p2), .int p3] [(h0, .inr (6, [h0_course, h0_trial, .ref s_corners, .ref s_guilds, .ref s_wasUp, .ref s_toldAt, h0_untoldAt, .ref s_untold, h0_upBehind, h0_fitting, h0_groups, .int (nI h0_isWalked), .int (nI h0_count)])), (s_corners, .inl (gI g, 30, .inl f_s_corners)), (s_guilds, .inl (gI g, 30, .inl f_s_guilds)), (s_wasUp, .inl (gZ g, 30, .inl f_s_wasUp)), (s_toldAt, .inl (gI g, 30, .inl f_s_toldAt)), (s_untold, .inl (gZ g, 30, .inl f_s_untold))] (fun r W' => True ∧ ∃ (z0 : Nat) (z1 : Nat → Int32) (z2 : Nat → Int32) (z3 : Nat → Int32) (z4 : Nat → Int32) (z5 : Nat → Int32), W' = [(h0, .inr (6, [h0_course, h0_trial, .ref s_corners, .ref s_guilds, .ref s_wasUp, .ref s_toldAt, h0_untoldAt, .ref s_untold, h0_upBehind, h0_fitting, h0_groups, .int (nI h0_isWalked), .int (nI z0)])), (s_corners, .inl (gI g, 30, .inl z1)), (s_guilds, .inl (gI g, 30, .inl z2)), (s_wasUp, .inl (gZ g, 30, .inl z3)), (s_toldAt, .inl (gI g, 30, .inl z4)), (s_untold, .inl (gZ g, 30, .inl z5))] ∧ z0 ≤ 30 ∧ TN 30 8 z1 ∧ TN 30 4 z2 ∧ TN 30 1 z3 ∧ TN 30 1 z5) := by
  refine MIof (by decide) (Nat.le_of_ble_eq_true rfl) ?_
  intro p e s m below meth c A ls H locs hcx hA hP hD hS hl
  obtain ⟨hx, hb, hml, hr, hlocks, hown, hts, hE, hnm⟩ := id hcx
  have hown : s.vm.findClass RX6 = some m.cls := hown
  have hK := hE.1
  have hl : lv_has ls 5 [(0, .ref h0), (1, .int (nI p0)), (2, .int (nI p1)), (3, .int (nI p2)), (4, .int p3)] := hl
  refine lv_aload_n hx hb dX6_add_0 rfl (lv_at hl 0 rfl) ?_
  refine va_get (D := g.1) (ci := 6) (v := Value.int (nI h0_count)) (C := RX6) (T := TX6) (N := 13) hx hb hts inlX6 hown hK hP 0 rfl rfl 12 (by decide) (hts _ q12_9) (fun _ h9 => h9) rfl dX6_add_1 ?_
  refine lv_bipush (v := 30) hx hb dX6_add_4 (by decide) ?_
  refine lv_icmp_lt (tgt := 11) hx hb dX6_add_6 (by decide) (fun c1 => ?_) (fun c1 => ?_)
  · have hn2 := nlt (a := h0_count) (b := 30) (by omega) (by omega) c1
    refine lv_aload_n hx hb dX6_add_11 rfl (lv_at hl 0 rfl) ?_
    refine va_get (D := g.1) (ci := 6) (v := Value.ref s_corners) (C := RX6) (T := TX6) (N := 13) hx hb hts inlX6 hown hK hP 0 rfl rfl 2 (by decide) (hts _ q8_22) (fun _ h9 => h9) rfl dX6_add_12 ?_
    refine lv_aload_n hx hb dX6_add_15 rfl (lv_at hl 0 rfl) ?_
    refine va_get (D := g.1) (ci := 6) (v := Value.int (nI h0_count)) (C := RX6) (T := TX6) (N := 13) hx hb hts inlX6 hown hK hP 0 rfl rfl 12 (by decide) (hts _ q12_9) (fun _ h9 => h9) rfl dX6_add_16 ?_
    refine lv_iload_n hx hb dX6_add_19 rfl (lv_at hl 1 rfl) ?_
    refine ia_st hx hb hK hP hD hS 1 1 rfl rfl (h0_count) rfl (by omega) (by decide) dX6_add_20 (fun f3 H locs ef3 hP hD hS => ?_)
    have htf3 : TN 30 8 f3 := by rw [ef3]; exact TN_upd (m := p0) ht_s_corners (by omega)
    have hP : va_P g.1 vwCl [(h0, .inr (6, [h0_course, h0_trial, .ref s_corners, .ref s_guilds, .ref s_wasUp, .ref s_toldAt, h0_untoldAt, .ref s_untold, h0_upBehind, h0_fitting, h0_groups, .int (nI h0_isWalked), .int (nI h0_count)])), (s_corners, .inl (gI g, 30, .inl f3)), (s_guilds, .inl (gI g, 30, .inl f_s_guilds)), (s_wasUp, .inl (gZ g, 30, .inl f_s_wasUp)), (s_toldAt, .inl (gI g, 30, .inl f_s_toldAt)), (s_untold, .inl (gZ g, 30, .inl f_s_untold))] H := hP
    have hD : va_D A [(h0, .inr (6, [h0_course, h0_trial, .ref s_corners, .ref s_guilds, .ref s_wasUp, .ref s_toldAt, h0_untoldAt, .ref s_untold, h0_upBehind, h0_fitting, h0_groups, .int (nI h0_isWalked), .int (nI h0_count)])), (s_corners, .inl (gI g, 30, .inl f3)), (s_guilds, .inl (gI g, 30, .inl f_s_guilds)), (s_wasUp, .inl (gZ g, 30, .inl f_s_wasUp)), (s_toldAt, .inl (gI g, 30, .inl f_s_toldAt)), (s_untold, .inl (gZ g, 30, .inl f_s_untold))] := hD
    refine lv_aload_n hx hb dX6_add_21 rfl (lv_at hl 0 rfl) ?_
    refine va_get (D := g.1) (ci := 6) (v := Value.ref s_guilds) (C := RX6) (T := TX6) (N := 13) hx hb hts inlX6 hown hK hP 0 rfl rfl 3 (by decide) (hts _ q8_23) (fun _ h9 => h9) rfl dX6_add_22 ?_
    refine lv_aload_n hx hb dX6_add_25 rfl (lv_at hl 0 rfl) ?_
    refine va_get (D := g.1) (ci := 6) (v := Value.int (nI h0_count)) (C := RX6) (T := TX6) (N := 13) hx hb hts inlX6 hown hK hP 0 rfl rfl 12 (by decide) (hts _ q12_9) (fun _ h9 => h9) rfl dX6_add_26 ?_
    refine lv_iload_n hx hb dX6_add_29 rfl (lv_at hl 2 rfl) ?_
    refine ia_st hx hb hK hP hD hS 2 1 rfl rfl (h0_count) rfl (by omega) (by decide) dX6_add_30 (fun f4 H locs ef4 hP hD hS => ?_)
    have htf4 : TN 30 4 f4 := by rw [ef4]; exact TN_upd (m := p1) ht_s_guilds (by omega)
    have hP : va_P g.1 vwCl [(h0, .inr (6, [h0_course, h0_trial, .ref s_corners, .ref s_guilds, .ref s_wasUp, .ref s_toldAt, h0_untoldAt, .ref s_untold, h0_upBehind, h0_fitting, h0_groups, .int (nI h0_isWalked), .int (nI h0_count)])), (s_corners, .inl (gI g, 30, .inl f3)), (s_guilds, .inl (gI g, 30, .inl f4)), (s_wasUp, .inl (gZ g, 30, .inl f_s_wasUp)), (s_toldAt, .inl (gI g, 30, .inl f_s_toldAt)), (s_untold, .inl (gZ g, 30, .inl f_s_untold))] H := hP
    have hD : va_D A [(h0, .inr (6, [h0_course, h0_trial, .ref s_corners, .ref s_guilds, .ref s_wasUp, .ref s_toldAt, h0_untoldAt, .ref s_untold, h0_upBehind, h0_fitting, h0_groups, .int (nI h0_isWalked), .int (nI h0_count)])), (s_corners, .inl (gI g, 30, .inl f3)), (s_guilds, .inl (gI g, 30, .inl f4)), (s_wasUp, .inl (gZ g, 30, .inl f_s_wasUp)), (s_toldAt, .inl (gI g, 30, .inl f_s_toldAt)), (s_untold, .inl (gZ g, 30, .inl f_s_untold))] := hD
    refine lv_aload_n hx hb dX6_add_31 rfl (lv_at hl 0 rfl) ?_
    refine va_get (D := g.1) (ci := 6) (v := Value.ref s_wasUp) (C := RX6) (T := TX6) (N := 13) hx hb hts inlX6 hown hK hP 0 rfl rfl 4 (by decide) (hts _ q9_0) (fun _ h9 => h9) rfl dX6_add_32 ?_
    refine lv_aload_n hx hb dX6_add_35 rfl (lv_at hl 0 rfl) ?_
    refine va_get (D := g.1) (ci := 6) (v := Value.int (nI h0_count)) (C := RX6) (T := TX6) (N := 13) hx hb hts inlX6 hown hK hP 0 rfl rfl 12 (by decide) (hts _ q12_9) (fun _ h9 => h9) rfl dX6_add_36 ?_
    refine lv_iload_n hx hb dX6_add_39 rfl (lv_at hl 3 rfl) ?_
    refine za_st hx hb hK hP hD hS 3 3 rfl rfl (h0_count) rfl (by omega) (by decide) (znar (m := p2) (by omega)) dX6_add_40 (fun f5 H locs ef5 hP hD hS => ?_)
    have htf5 : TN 30 1 f5 := by rw [ef5]; exact TN_upd (m := p2) ht_s_wasUp (by omega)
    have hP : va_P g.1 vwCl [(h0, .inr (6, [h0_course, h0_trial, .ref s_corners, .ref s_guilds, .ref s_wasUp, .ref s_toldAt, h0_untoldAt, .ref s_untold, h0_upBehind, h0_fitting, h0_groups, .int (nI h0_isWalked), .int (nI h0_count)])), (s_corners, .inl (gI g, 30, .inl f3)), (s_guilds, .inl (gI g, 30, .inl f4)), (s_wasUp, .inl (gZ g, 30, .inl f5)), (s_toldAt, .inl (gI g, 30, .inl f_s_toldAt)), (s_untold, .inl (gZ g, 30, .inl f_s_untold))] H := hP
    have hD : va_D A [(h0, .inr (6, [h0_course, h0_trial, .ref s_corners, .ref s_guilds, .ref s_wasUp, .ref s_toldAt, h0_untoldAt, .ref s_untold, h0_upBehind, h0_fitting, h0_groups, .int (nI h0_isWalked), .int (nI h0_count)])), (s_corners, .inl (gI g, 30, .inl f3)), (s_guilds, .inl (gI g, 30, .inl f4)), (s_wasUp, .inl (gZ g, 30, .inl f5)), (s_toldAt, .inl (gI g, 30, .inl f_s_toldAt)), (s_untold, .inl (gZ g, 30, .inl f_s_untold))] := hD
    refine lv_aload_n hx hb dX6_add_41 rfl (lv_at hl 0 rfl) ?_
    refine va_get (D := g.1) (ci := 6) (v := Value.ref s_toldAt) (C := RX6) (T := TX6) (N := 13) hx hb hts inlX6 hown hK hP 0 rfl rfl 5 (by decide) (hts _ q9_1) (fun _ h9 => h9) rfl dX6_add_42 ?_
    refine lv_aload_n hx hb dX6_add_45 rfl (lv_at hl 0 rfl) ?_
    refine va_get (D := g.1) (ci := 6) (v := Value.int (nI h0_count)) (C := RX6) (T := TX6) (N := 13) hx hb hts inlX6 hown hK hP 0 rfl rfl 12 (by decide) (hts _ q12_9) (fun _ h9 => h9) rfl dX6_add_46 ?_
    refine lv_iload hx hb dX6_add_49 (lv_at hl 4 rfl) ?_
    refine ia_st hx hb hK hP hD hS 4 1 rfl rfl (h0_count) rfl (by omega) (by decide) dX6_add_51 (fun f6 H locs ef6 hP hD hS => ?_)
    have hP : va_P g.1 vwCl [(h0, .inr (6, [h0_course, h0_trial, .ref s_corners, .ref s_guilds, .ref s_wasUp, .ref s_toldAt, h0_untoldAt, .ref s_untold, h0_upBehind, h0_fitting, h0_groups, .int (nI h0_isWalked), .int (nI h0_count)])), (s_corners, .inl (gI g, 30, .inl f3)), (s_guilds, .inl (gI g, 30, .inl f4)), (s_wasUp, .inl (gZ g, 30, .inl f5)), (s_toldAt, .inl (gI g, 30, .inl f6)), (s_untold, .inl (gZ g, 30, .inl f_s_untold))] H := hP
    have hD : va_D A [(h0, .inr (6, [h0_course, h0_trial, .ref s_corners, .ref s_guilds, .ref s_wasUp, .ref s_toldAt, h0_untoldAt, .ref s_untold, h0_upBehind, h0_fitting, h0_groups, .int (nI h0_isWalked), .int (nI h0_count)])), (s_corners, .inl (gI g, 30, .inl f3)), (s_guilds, .inl (gI g, 30, .inl f4)), (s_wasUp, .inl (gZ g, 30, .inl f5)), (s_toldAt, .inl (gI g, 30, .inl f6)), (s_untold, .inl (gZ g, 30, .inl f_s_untold))] := hD
    refine lv_aload_n hx hb dX6_add_52 rfl (lv_at hl 0 rfl) ?_
    refine va_get (D := g.1) (ci := 6) (v := Value.ref s_untold) (C := RX6) (T := TX6) (N := 13) hx hb hts inlX6 hown hK hP 0 rfl rfl 7 (by decide) (hts _ q9_3) (fun _ h9 => h9) rfl dX6_add_53 ?_
    refine lv_aload_n hx hb dX6_add_56 rfl (lv_at hl 0 rfl) ?_
    refine va_get (D := g.1) (ci := 6) (v := Value.int (nI h0_count)) (C := RX6) (T := TX6) (N := 13) hx hb hts inlX6 hown hK hP 0 rfl rfl 12 (by decide) (hts _ q12_9) (fun _ h9 => h9) rfl dX6_add_57 ?_
    refine lv_iconst (v := 0) hx hb dX6_add_60 (by decide) ?_
    refine za_st hx hb hK hP hD hS 5 3 rfl rfl (h0_count) rfl (by omega) (by decide) rfl dX6_add_61 (fun f7 H locs ef7 hP hD hS => ?_)
    have htf7 : TN 30 1 f7 := by rw [ef7]; exact TN_upd (m := 0) ht_s_untold (by omega)
    have hP : va_P g.1 vwCl [(h0, .inr (6, [h0_course, h0_trial, .ref s_corners, .ref s_guilds, .ref s_wasUp, .ref s_toldAt, h0_untoldAt, .ref s_untold, h0_upBehind, h0_fitting, h0_groups, .int (nI h0_isWalked), .int (nI h0_count)])), (s_corners, .inl (gI g, 30, .inl f3)), (s_guilds, .inl (gI g, 30, .inl f4)), (s_wasUp, .inl (gZ g, 30, .inl f5)), (s_toldAt, .inl (gI g, 30, .inl f6)), (s_untold, .inl (gZ g, 30, .inl f7))] H := hP
    have hD : va_D A [(h0, .inr (6, [h0_course, h0_trial, .ref s_corners, .ref s_guilds, .ref s_wasUp, .ref s_toldAt, h0_untoldAt, .ref s_untold, h0_upBehind, h0_fitting, h0_groups, .int (nI h0_isWalked), .int (nI h0_count)])), (s_corners, .inl (gI g, 30, .inl f3)), (s_guilds, .inl (gI g, 30, .inl f4)), (s_wasUp, .inl (gZ g, 30, .inl f5)), (s_toldAt, .inl (gI g, 30, .inl f6)), (s_untold, .inl (gZ g, 30, .inl f7))] := hD
    refine lv_aload_n hx hb dX6_add_62 rfl (lv_at hl 0 rfl) ?_
    refine lv_dup hx hb dX6_add_63 rfl ?_
    refine va_get (D := g.1) (ci := 6) (v := Value.int (nI h0_count)) (C := RX6) (T := TX6) (N := 13) hx hb hts inlX6 hown hK hP 0 rfl rfl 12 (by decide) (hts _ q12_9) (fun _ h9 => h9) rfl dX6_add_64 ?_
    refine lv_iconst (v := 1) hx hb dX6_add_67 (by decide) ?_
    refine lv_iadd hx hb dX6_add_68 ?_
    refine lv_tope (y := (nI (h0_count + 1))) (nI_add (h0_count) (1)) ?_
    refine va_put (D := g.1) (ci := 6) (v := Value.int (nI (h0_count + 1))) (ty := .int) (C := RX6) (T := TX6) (N := 13) hx hb hts inlX6 tyX6 tyX6_ok nmX6 hown hK hP hD hS 0 rfl rfl 12 (by decide) (hts _ q12_9) (fun _ h9 => h9) rfl (by decide +kernel) rfl rfl (Nat.le_of_ble_eq_true rfl) dX6_add_69 (fun H locs hP hD hS => ?_)
    have hP : va_P g.1 vwCl [(h0, .inr (6, [h0_course, h0_trial, .ref s_corners, .ref s_guilds, .ref s_wasUp, .ref s_toldAt, h0_untoldAt, .ref s_untold, h0_upBehind, h0_fitting, h0_groups, .int (nI h0_isWalked), .int (nI (h0_count + 1))])), (s_corners, .inl (gI g, 30, .inl f3)), (s_guilds, .inl (gI g, 30, .inl f4)), (s_wasUp, .inl (gZ g, 30, .inl f5)), (s_toldAt, .inl (gI g, 30, .inl f6)), (s_untold, .inl (gZ g, 30, .inl f7))] H := hP
    have hD : va_D A [(h0, .inr (6, [h0_course, h0_trial, .ref s_corners, .ref s_guilds, .ref s_wasUp, .ref s_toldAt, h0_untoldAt, .ref s_untold, h0_upBehind, h0_fitting, h0_groups, .int (nI h0_isWalked), .int (nI (h0_count + 1))])), (s_corners, .inl (gI g, 30, .inl f3)), (s_guilds, .inl (gI g, 30, .inl f4)), (s_wasUp, .inl (gZ g, 30, .inl f5)), (s_toldAt, .inl (gI g, 30, .inl f6)), (s_untold, .inl (gZ g, 30, .inl f7))] := hD
    refine lv_aload_n hx hb dX6_add_72 rfl (lv_at hl 0 rfl) ?_
    refine va_get (D := g.1) (ci := 6) (v := Value.int (nI (h0_count + 1))) (C := RX6) (T := TX6) (N := 13) hx hb hts inlX6 hown hK hP 0 rfl rfl 12 (by decide) (hts _ q12_9) (fun _ h9 => h9) rfl dX6_add_73 ?_
    refine lv_iconst (v := 1) hx hb dX6_add_76 (by decide) ?_
    refine lv_isub hx hb dX6_add_77 ?_
    refine lv_tope (y := (nI ((h0_count + 1) - (1)))) (pk_sub (a := h0_count + 1) (b := 1) (by omega)) ?_
    exact xi hx hb hr hlocks rfl hP hD hS ⟨trivial, (h0_count + 1), f3, f4, f5, f6, f7, rfl, (by omega), htf3, htf4, htf5, htf7⟩ (Nat.le_of_ble_eq_true rfl) (Nat.le_of_ble_eq_true rfl) dX6_add_78
  · have hn8 := nnlt (a := h0_count) (b := 30) (by omega) (by omega) c1
    refine lv_iconst (v := (-1)) hx hb dX6_add_9 (by decide) ?_
    exact xi hx hb hr hlocks rfl hP hD hS ⟨trivial, (h0_count), f_s_corners, f_s_guilds, f_s_wasUp, f_s_toldAt, f_s_untold, rfl, (by omega), ht_s_corners, ht_s_guilds, ht_s_wasUp, ht_s_untold⟩ (Nat.le_of_ble_eq_true rfl) (Nat.le_of_ble_eq_true rfl) dX6_add_10

set_option maxHeartbeats 4000000 in
set_option maxRecDepth 100000 in
theorem c_X6_fitsAll {l : Launch} {g : Gx} {h0 s_corners s_guilds s_wasUp s_toldAt s_untoldAt s_untold s_upBehind : Nat} {h0_course : Value} {h0_trial : Value} {h0_fitting : Value} {h0_groups : Value} {h0_isWalked : Nat} {h0_count : Nat} {f_s_corners : Nat → Int32} {f_s_guilds : Nat → Int32} {f_s_wasUp : Nat → Int32} {f_s_toldAt : Nat → Int32} {f_s_untoldAt : Nat → Int32} {f_s_untold : Nat → Int32} {f_s_upBehind : Nat → Int32} {p0 : Nat} {p1 : Int32} (hb_h0_isWalked : h0_isWalked ≤ 1) (hb_h0_count : h0_count ≤ 30) (ht_s_corners : TN 30 8 f_s_corners) (ht_s_guilds : TN 30 4 f_s_guilds) (ht_s_wasUp : TN 30 1 f_s_wasUp) (ht_s_untold : TN 30 1 f_s_untold) (hb_p0 : p0 ≤ 100) : MI l g yX6_fitsAll cX6_fitsAll 6 (some .boolean) 2 0 0 [.ref h0, .int (nI p0), .int p1] [(h0, .inr (6, [h0_course, h0_trial, .ref s_corners, .ref s_guilds, .ref s_wasUp, .ref s_toldAt, .ref s_untoldAt, .ref s_untold, .ref s_upBehind, h0_fitting, h0_groups, .int (nI h0_isWalked), .int (nI h0_count)])), (s_corners, .inl (gI g, 30, .inl f_s_corners)), (s_guilds, .inl (gI g, 30, .inl f_s_guilds)), (s_wasUp, .inl (gZ g, 30, .inl f_s_wasUp)), (s_toldAt, .inl (gI g, 30, .inl f_s_toldAt)), (s_untoldAt, .inl (gI g, 30, .inl f_s_untoldAt)), (s_untold, .inl (gZ g, 30, .inl f_s_untold)), (s_upBehind, .inl (gI g, 909, .inl f_s_upBehind))] (fun r W' => (∃ m : Nat, m ≤ 1 ∧ nI m = r) ∧ W' = [(h0, .inr (6, [h0_course, h0_trial, .ref s_corners, .ref s_guilds, .ref s_wasUp, .ref s_toldAt, .ref s_untoldAt, .ref s_untold, .ref s_upBehind, h0_fitting, h0_groups, .int (nI h0_isWalked), .int (nI h0_count)])), (s_corners, .inl (gI g, 30, .inl f_s_corners)), (s_guilds, .inl (gI g, 30, .inl f_s_guilds)), (s_wasUp, .inl (gZ g, 30, .inl f_s_wasUp)), (s_toldAt, .inl (gI g, 30, .inl f_s_toldAt)), (s_untoldAt, .inl (gI g, 30, .inl f_s_untoldAt)), (s_untold, .inl (gZ g, 30, .inl f_s_untold)), (s_upBehind, .inl (gI g, 909, .inl f_s_upBehind))]) := by
  refine MIof (by decide) (Nat.le_of_ble_eq_true rfl) ?_
  intro p e s m below meth c A ls H locs hcx hA hP hD hS hl
  obtain ⟨hx, hb, hml, hr, hlocks, hown, hts, hE, hnm⟩ := id hcx
  have hown : s.vm.findClass RX6 = some m.cls := hown
  have hK := hE.1
  have hl : lv_has ls 6 [(0, .ref h0), (1, .int (nI p0)), (2, .int p1)] := hl
  refine lv_iconst (v := 0) hx hb dX6_fitsAll_0 (by decide) ?_
  refine lv_istore_n (lv' := [(3, .int 0), (0, .ref h0), (1, .int (nI p0)), (2, .int p1)]) hx hb dX6_fitsAll_1 rfl hl (by decide) rfl (fun ls hl => ?_)
  have loop2 : ∀ (n k1 : Nat), k1 + n = h0_count → ∀ (H : Heap) (locs : List Loc) (ls : Array Slot), va_P g.1 vwCl [(h0, .inr (6, [h0_course, h0_trial, .ref s_corners, .ref s_guilds, .ref s_wasUp, .ref s_toldAt, .ref s_untoldAt, .ref s_untold, .ref s_upBehind, h0_fitting, h0_groups, .int (nI h0_isWalked), .int (nI h0_count)])), (s_corners, .inl (gI g, 30, .inl f_s_corners)), (s_guilds, .inl (gI g, 30, .inl f_s_guilds)), (s_wasUp, .inl (gZ g, 30, .inl f_s_wasUp)), (s_toldAt, .inl (gI g, 30, .inl f_s_toldAt)), (s_untoldAt, .inl (gI g, 30, .inl f_s_untoldAt)), (s_untold, .inl (gZ g, 30, .inl f_s_untold)), (s_upBehind, .inl (gI g, 909, .inl f_s_upBehind))] H → va_D A [(h0, .inr (6, [h0_course, h0_trial, .ref s_corners, .ref s_guilds, .ref s_wasUp, .ref s_toldAt, .ref s_untoldAt, .ref s_untold, .ref s_upBehind, h0_fitting, h0_groups, .int (nI h0_isWalked), .int (nI h0_count)])), (s_corners, .inl (gI g, 30, .inl f_s_corners)), (s_guilds, .inl (gI g, 30, .inl f_s_guilds)), (s_wasUp, .inl (gZ g, 30, .inl f_s_wasUp)), (s_toldAt, .inl (gI g, 30, .inl f_s_toldAt)), (s_untoldAt, .inl (gI g, 30, .inl f_s_untoldAt)), (s_untold, .inl (gZ g, 30, .inl f_s_untold)), (s_upBehind, .inl (gI g, 909, .inl f_s_upBehind))] → va_S A s.heap H locs → lv_has ls 6 [(3, .int (nI k1)), (0, .ref h0), (1, .int (nI p0)), (2, .int p1)] → W p l e (rmD 2 0 0) s m ([Value.ref h0, Value.int (nI p0), Value.int p1] : List Value).toArray below meth c H locs 0 0 (MQ below (QI g A (fun r W' => (∃ m : Nat, m ≤ 1 ∧ nI m = r) ∧ W' = [(h0, .inr (6, [h0_course, h0_trial, .ref s_corners, .ref s_guilds, .ref s_wasUp, .ref s_toldAt, .ref s_untoldAt, .ref s_untold, .ref s_upBehind, h0_fitting, h0_groups, .int (nI h0_isWalked), .int (nI h0_count)])), (s_corners, .inl (gI g, 30, .inl f_s_corners)), (s_guilds, .inl (gI g, 30, .inl f_s_guilds)), (s_wasUp, .inl (gZ g, 30, .inl f_s_wasUp)), (s_toldAt, .inl (gI g, 30, .inl f_s_toldAt)), (s_untoldAt, .inl (gI g, 30, .inl f_s_untoldAt)), (s_untold, .inl (gZ g, 30, .inl f_s_untold)), (s_upBehind, .inl (gI g, 909, .inl f_s_upBehind))])) ([Value.ref h0, Value.int (nI p0), Value.int p1] : List Value).toArray s 0 0 A) (F0 m 2 ls []) := by
    intro n
    induction n with
    | zero =>
      intro k1 hkk1 H locs ls hP hD hS hl
      have hNk1 : h0_count = k1 := by omega
      subst hNk1
      refine lv_iload_n hx hb dX6_fitsAll_2 rfl (lv_at hl 0 rfl) ?_
      refine lv_aload_n hx hb dX6_fitsAll_3 rfl (lv_at hl 1 rfl) ?_
      refine va_get (D := g.1) (ci := 6) (v := Value.int (nI h0_count)) (C := RX6) (T := TX6) (N := 13) hx hb hts inlX6 hown hK hP 0 rfl rfl 12 (by decide) (hts _ q12_9) (fun _ h9 => h9) rfl dX6_fitsAll_4 ?_
      refine lv_icmp_ge (tgt := 106) hx hb dX6_fitsAll_7 (by decide) (fun _ => ?_) (fun c3 => absurd (nI_le (a := h0_count) (b := h0_count) (by omega) (by omega)) c3)
      refine lv_iconst (v := 1) hx hb dX6_fitsAll_106 (by decide) ?_
      exact xi hx hb hr hlocks rfl hP hD hS ⟨⟨1, by omega, rfl⟩, rfl⟩ (Nat.le_of_ble_eq_true rfl) (Nat.le_of_ble_eq_true rfl) dX6_fitsAll_107
    | succ n ihk1 =>
      intro k1 hkk1 H locs ls hP hD hS hl
      have hNk1 : k1 < h0_count := by omega
      refine lv_iload_n hx hb dX6_fitsAll_2 rfl (lv_at hl 0 rfl) ?_
      refine lv_aload_n hx hb dX6_fitsAll_3 rfl (lv_at hl 1 rfl) ?_
      refine va_get (D := g.1) (ci := 6) (v := Value.int (nI h0_count)) (C := RX6) (T := TX6) (N := 13) hx hb hts inlX6 hown hK hP 0 rfl rfl 12 (by decide) (hts _ q12_9) (fun _ h9 => h9) rfl dX6_fitsAll_4 ?_
      refine lv_icmp_ge (tgt := 106) hx hb dX6_fitsAll_7 (by decide) (fun c4 => absurd c4 (nI_ge (a := k1) (b := h0_count) (by omega) (by omega))) (fun _ => ?_)
      refine lv_aload_n hx hb dX6_fitsAll_10 rfl (lv_at hl 1 rfl) ?_
      refine va_get (D := g.1) (ci := 6) (v := Value.ref s_toldAt) (C := RX6) (T := TX6) (N := 13) hx hb hts inlX6 hown hK hP 0 rfl rfl 5 (by decide) (hts _ q9_1) (fun _ h9 => h9) rfl dX6_fitsAll_11 ?_
      refine lv_iload_n hx hb dX6_fitsAll_14 rfl (lv_at hl 0 rfl) ?_
      refine ia_ld hx hb hK hP 4 1 rfl rfl (k1) rfl (by omega) (by decide) dX6_fitsAll_15 ?_
      refine lv_topi (fun x5 ex5 => ?_)
      refine lv_iload_n hx hb dX6_fitsAll_16 rfl (lv_at hl 3 rfl) ?_
      refine lv_icmp_gt (tgt := 43) hx hb dX6_fitsAll_17 (by decide) (fun c6 => ?_) (fun c6 => ?_)
      · refine lv_iconst (v := 0) hx hb dX6_fitsAll_43 (by decide) ?_
        refine lv_istore (lv' := [(4, .int 0), (3, .int (nI k1)), (0, .ref h0), (1, .int (nI p0)), (2, .int p1)]) hx hb dX6_fitsAll_44 hl (by decide) rfl (fun ls hl => ?_)
        refine lv_aload_n hx hb dX6_fitsAll_46 rfl (lv_at hl 2 rfl) ?_
        refine va_get (D := g.1) (ci := 6) (v := Value.ref s_upBehind) (C := RX6) (T := TX6) (N := 13) hx hb hts inlX6 hown hK hP 0 rfl rfl 8 (by decide) (hts _ q9_4) (fun _ h9 => h9) rfl dX6_fitsAll_47 ?_
        refine lv_iload_n hx hb dX6_fitsAll_50 rfl (lv_at hl 3 rfl) ?_
        refine lv_bipush (v := 9) hx hb dX6_fitsAll_51 (by decide) ?_
        refine lv_imul hx hb dX6_fitsAll_53 ?_
        refine lv_tope (y := (nI (p0 * 9))) (pk_mul (p0) (9)) ?_
        refine lv_aload_n hx hb dX6_fitsAll_54 rfl (lv_at hl 2 rfl) ?_
        refine va_get (D := g.1) (ci := 6) (v := Value.ref s_corners) (C := RX6) (T := TX6) (N := 13) hx hb hts inlX6 hown hK hP 0 rfl rfl 2 (by decide) (hts _ q8_22) (fun _ h9 => h9) rfl dX6_fitsAll_55 ?_
        refine lv_iload_n hx hb dX6_fitsAll_58 rfl (lv_at hl 1 rfl) ?_
        refine ia_ld hx hb hK hP 1 1 rfl rfl (k1) rfl (by omega) (by decide) dX6_fitsAll_59 ?_
        obtain ⟨m7, hm7, em7⟩ := ht_s_corners (k1) (by omega)
        refine lv_tope em7 ?_
        refine lv_iadd hx hb dX6_fitsAll_60 ?_
        refine lv_tope (y := (nI (p0 * 9 + m7))) (nI_add (p0 * 9) (m7)) ?_
        refine ia_ld hx hb hK hP 7 1 rfl rfl (p0 * 9 + m7) rfl (by omega) (by decide) dX6_fitsAll_61 ?_
        refine lv_topi (fun x8 ex8 => ?_)
        refine lv_aload_n hx hb dX6_fitsAll_62 rfl (lv_at hl 2 rfl) ?_
        refine va_get (D := g.1) (ci := 6) (v := Value.ref s_guilds) (C := RX6) (T := TX6) (N := 13) hx hb hts inlX6 hown hK hP 0 rfl rfl 3 (by decide) (hts _ q8_23) (fun _ h9 => h9) rfl dX6_fitsAll_63 ?_
        refine lv_iload_n hx hb dX6_fitsAll_66 rfl (lv_at hl 1 rfl) ?_
        refine ia_ld hx hb hK hP 2 1 rfl rfl (k1) rfl (by omega) (by decide) dX6_fitsAll_67 ?_
        obtain ⟨m9, hm9, em9⟩ := ht_s_guilds (k1) (by omega)
        refine lv_tope em9 ?_
        refine lv_ishr hx hb dX6_fitsAll_68 ?_
        refine lv_topi (fun x10 ex10 => ?_)
        refine lv_iconst (v := 1) hx hb dX6_fitsAll_69 (by decide) ?_
        refine lv_iand hx hb dX6_fitsAll_70 ?_
        refine lv_topi (fun x11 ex11 => ?_)
        refine lv_iconst (v := 1) hx hb dX6_fitsAll_71 (by decide) ?_
        refine lv_icmp_ne (tgt := 79) hx hb dX6_fitsAll_72 (by decide) (fun c12 => ?_) (fun c12 => ?_)
        · refine lv_iconst (v := 0) hx hb dX6_fitsAll_79 (by decide) ?_
          refine lv_istore (lv' := [(5, .int 0), (4, .int 0), (3, .int (nI k1)), (0, .ref h0), (1, .int (nI p0)), (2, .int p1)]) hx hb dX6_fitsAll_80 hl (by decide) rfl (fun ls hl => ?_)
          refine lv_iload hx hb dX6_fitsAll_82 (lv_at hl 1 rfl) ?_
          refine lv_if_eq (tgt := 100) hx hb dX6_fitsAll_84 (by decide) (fun _ => ?_) (fun c13 => absurd (by decide) c13)
          refine lv_iinc (v := (nI (k1 + 1))) (lv' := [(3, .int (nI (k1 + 1))), (5, .int 0), (4, .int 0), (0, .ref h0), (1, .int (nI p0)), (2, .int p1)]) hx hb dX6_fitsAll_100 hl (k := 2) rfl (nI_1 _) (by decide) rfl (fun ls hl => ?_)
          refine lv_goto (tgt := 2) hx hb dX6_fitsAll_103 (by decide) ?_
          exact ihk1 (k1 + 1) (by omega) H locs ls hP hD hS (lv_sub hl [0, 3, 4, 5] rfl)
        · refine lv_iconst (v := 1) hx hb dX6_fitsAll_75 (by decide) ?_
          refine lv_goto (tgt := 80) hx hb dX6_fitsAll_76 (by decide) ?_
          refine lv_istore (lv' := [(5, .int 1), (4, .int 0), (3, .int (nI k1)), (0, .ref h0), (1, .int (nI p0)), (2, .int p1)]) hx hb dX6_fitsAll_80 hl (by decide) rfl (fun ls hl => ?_)
          refine lv_iload hx hb dX6_fitsAll_82 (lv_at hl 1 rfl) ?_
          refine lv_if_eq (tgt := 100) hx hb dX6_fitsAll_84 (by decide) (fun _ => ?_) (fun c14 => absurd (by decide) c14)
          refine lv_iinc (v := (nI (k1 + 1))) (lv' := [(3, .int (nI (k1 + 1))), (5, .int 1), (4, .int 0), (0, .ref h0), (1, .int (nI p0)), (2, .int p1)]) hx hb dX6_fitsAll_100 hl (k := 2) rfl (nI_1 _) (by decide) rfl (fun ls hl => ?_)
          refine lv_goto (tgt := 2) hx hb dX6_fitsAll_103 (by decide) ?_
          exact ihk1 (k1 + 1) (by omega) H locs ls hP hD hS (lv_sub hl [0, 3, 4, 5] rfl)
      · refine lv_aload_n hx hb dX6_fitsAll_20 rfl (lv_at hl 1 rfl) ?_
        refine va_get (D := g.1) (ci := 6) (v := Value.ref s_untold) (C := RX6) (T := TX6) (N := 13) hx hb hts inlX6 hown hK hP 0 rfl rfl 7 (by decide) (hts _ q9_3) (fun _ h9 => h9) rfl dX6_fitsAll_21 ?_
        refine lv_iload_n hx hb dX6_fitsAll_24 rfl (lv_at hl 0 rfl) ?_
        refine za_ld hx hb hK hP 6 3 rfl rfl (k1) rfl (by omega) (by decide) dX6_fitsAll_25 ?_
        obtain ⟨m15, hm15, em15⟩ := ht_s_untold (k1) (by omega)
        refine lv_tope em15 ?_
        refine lv_if_eq (tgt := 39) hx hb dX6_fitsAll_26 (by decide) (fun c16 => ?_) (fun c16 => ?_)
        · have hn17 := neq (a := m15) (b := 0) (by omega) (by omega) c16
          refine lv_iconst (v := 1) hx hb dX6_fitsAll_39 (by decide) ?_
          refine lv_goto (tgt := 44) hx hb dX6_fitsAll_40 (by decide) ?_
          refine lv_istore (lv' := [(4, .int 1), (3, .int (nI k1)), (0, .ref h0), (1, .int (nI p0)), (2, .int p1)]) hx hb dX6_fitsAll_44 hl (by decide) rfl (fun ls hl => ?_)
          refine lv_aload_n hx hb dX6_fitsAll_46 rfl (lv_at hl 2 rfl) ?_
          refine va_get (D := g.1) (ci := 6) (v := Value.ref s_upBehind) (C := RX6) (T := TX6) (N := 13) hx hb hts inlX6 hown hK hP 0 rfl rfl 8 (by decide) (hts _ q9_4) (fun _ h9 => h9) rfl dX6_fitsAll_47 ?_
          refine lv_iload_n hx hb dX6_fitsAll_50 rfl (lv_at hl 3 rfl) ?_
          refine lv_bipush (v := 9) hx hb dX6_fitsAll_51 (by decide) ?_
          refine lv_imul hx hb dX6_fitsAll_53 ?_
          refine lv_tope (y := (nI (p0 * 9))) (pk_mul (p0) (9)) ?_
          refine lv_aload_n hx hb dX6_fitsAll_54 rfl (lv_at hl 2 rfl) ?_
          refine va_get (D := g.1) (ci := 6) (v := Value.ref s_corners) (C := RX6) (T := TX6) (N := 13) hx hb hts inlX6 hown hK hP 0 rfl rfl 2 (by decide) (hts _ q8_22) (fun _ h9 => h9) rfl dX6_fitsAll_55 ?_
          refine lv_iload_n hx hb dX6_fitsAll_58 rfl (lv_at hl 1 rfl) ?_
          refine ia_ld hx hb hK hP 1 1 rfl rfl (k1) rfl (by omega) (by decide) dX6_fitsAll_59 ?_
          obtain ⟨m18, hm18, em18⟩ := ht_s_corners (k1) (by omega)
          refine lv_tope em18 ?_
          refine lv_iadd hx hb dX6_fitsAll_60 ?_
          refine lv_tope (y := (nI (p0 * 9 + m18))) (nI_add (p0 * 9) (m18)) ?_
          refine ia_ld hx hb hK hP 7 1 rfl rfl (p0 * 9 + m18) rfl (by omega) (by decide) dX6_fitsAll_61 ?_
          refine lv_topi (fun x19 ex19 => ?_)
          refine lv_aload_n hx hb dX6_fitsAll_62 rfl (lv_at hl 2 rfl) ?_
          refine va_get (D := g.1) (ci := 6) (v := Value.ref s_guilds) (C := RX6) (T := TX6) (N := 13) hx hb hts inlX6 hown hK hP 0 rfl rfl 3 (by decide) (hts _ q8_23) (fun _ h9 => h9) rfl dX6_fitsAll_63 ?_
          refine lv_iload_n hx hb dX6_fitsAll_66 rfl (lv_at hl 1 rfl) ?_
          refine ia_ld hx hb hK hP 2 1 rfl rfl (k1) rfl (by omega) (by decide) dX6_fitsAll_67 ?_
          obtain ⟨m20, hm20, em20⟩ := ht_s_guilds (k1) (by omega)
          refine lv_tope em20 ?_
          refine lv_ishr hx hb dX6_fitsAll_68 ?_
          refine lv_topi (fun x21 ex21 => ?_)
          refine lv_iconst (v := 1) hx hb dX6_fitsAll_69 (by decide) ?_
          refine lv_iand hx hb dX6_fitsAll_70 ?_
          refine lv_topi (fun x22 ex22 => ?_)
          refine lv_iconst (v := 1) hx hb dX6_fitsAll_71 (by decide) ?_
          refine lv_icmp_ne (tgt := 79) hx hb dX6_fitsAll_72 (by decide) (fun c23 => ?_) (fun c23 => ?_)
          · refine lv_iconst (v := 0) hx hb dX6_fitsAll_79 (by decide) ?_
            refine lv_istore (lv' := [(5, .int 0), (4, .int 1), (3, .int (nI k1)), (0, .ref h0), (1, .int (nI p0)), (2, .int p1)]) hx hb dX6_fitsAll_80 hl (by decide) rfl (fun ls hl => ?_)
            refine lv_iload hx hb dX6_fitsAll_82 (lv_at hl 1 rfl) ?_
            refine lv_if_eq (tgt := 100) hx hb dX6_fitsAll_84 (by decide) (fun c24 => absurd c24 (by decide)) (fun _ => ?_)
            refine lv_iload hx hb dX6_fitsAll_87 (lv_at hl 0 rfl) ?_
            refine lv_aload_n hx hb dX6_fitsAll_89 rfl (lv_at hl 3 rfl) ?_
            refine va_get (D := g.1) (ci := 6) (v := Value.ref s_wasUp) (C := RX6) (T := TX6) (N := 13) hx hb hts inlX6 hown hK hP 0 rfl rfl 4 (by decide) (hts _ q9_0) (fun _ h9 => h9) rfl dX6_fitsAll_90 ?_
            refine lv_iload_n hx hb dX6_fitsAll_93 rfl (lv_at hl 2 rfl) ?_
            refine za_ld hx hb hK hP 3 3 rfl rfl (k1) rfl (by omega) (by decide) dX6_fitsAll_94 ?_
            obtain ⟨m25, hm25, em25⟩ := ht_s_wasUp (k1) (by omega)
            refine lv_tope em25 ?_
            refine lv_icmp_eq (tgt := 100) hx hb dX6_fitsAll_95 (by decide) (fun c26 => ?_) (fun c26 => ?_)
            · have hn27 := neq (a := 0) (b := m25) (by omega) (by omega) c26
              refine lv_iinc (v := (nI (k1 + 1))) (lv' := [(3, .int (nI (k1 + 1))), (5, .int 0), (4, .int 1), (0, .ref h0), (1, .int (nI p0)), (2, .int p1)]) hx hb dX6_fitsAll_100 hl (k := 2) rfl (nI_1 _) (by decide) rfl (fun ls hl => ?_)
              refine lv_goto (tgt := 2) hx hb dX6_fitsAll_103 (by decide) ?_
              exact ihk1 (k1 + 1) (by omega) H locs ls hP hD hS (lv_sub hl [0, 3, 4, 5] rfl)
            · have hn28 := nneq (a := 0) (b := m25) (by omega) (by omega) c26
              refine lv_iconst (v := 0) hx hb dX6_fitsAll_98 (by decide) ?_
              exact xi hx hb hr hlocks rfl hP hD hS ⟨⟨0, by omega, rfl⟩, rfl⟩ (Nat.le_of_ble_eq_true rfl) (Nat.le_of_ble_eq_true rfl) dX6_fitsAll_99
          · refine lv_iconst (v := 1) hx hb dX6_fitsAll_75 (by decide) ?_
            refine lv_goto (tgt := 80) hx hb dX6_fitsAll_76 (by decide) ?_
            refine lv_istore (lv' := [(5, .int 1), (4, .int 1), (3, .int (nI k1)), (0, .ref h0), (1, .int (nI p0)), (2, .int p1)]) hx hb dX6_fitsAll_80 hl (by decide) rfl (fun ls hl => ?_)
            refine lv_iload hx hb dX6_fitsAll_82 (lv_at hl 1 rfl) ?_
            refine lv_if_eq (tgt := 100) hx hb dX6_fitsAll_84 (by decide) (fun c29 => absurd c29 (by decide)) (fun _ => ?_)
            refine lv_iload hx hb dX6_fitsAll_87 (lv_at hl 0 rfl) ?_
            refine lv_aload_n hx hb dX6_fitsAll_89 rfl (lv_at hl 3 rfl) ?_
            refine va_get (D := g.1) (ci := 6) (v := Value.ref s_wasUp) (C := RX6) (T := TX6) (N := 13) hx hb hts inlX6 hown hK hP 0 rfl rfl 4 (by decide) (hts _ q9_0) (fun _ h9 => h9) rfl dX6_fitsAll_90 ?_
            refine lv_iload_n hx hb dX6_fitsAll_93 rfl (lv_at hl 2 rfl) ?_
            refine za_ld hx hb hK hP 3 3 rfl rfl (k1) rfl (by omega) (by decide) dX6_fitsAll_94 ?_
            obtain ⟨m30, hm30, em30⟩ := ht_s_wasUp (k1) (by omega)
            refine lv_tope em30 ?_
            refine lv_icmp_eq (tgt := 100) hx hb dX6_fitsAll_95 (by decide) (fun c31 => ?_) (fun c31 => ?_)
            · have hn32 := neq (a := 1) (b := m30) (by omega) (by omega) c31
              refine lv_iinc (v := (nI (k1 + 1))) (lv' := [(3, .int (nI (k1 + 1))), (5, .int 1), (4, .int 1), (0, .ref h0), (1, .int (nI p0)), (2, .int p1)]) hx hb dX6_fitsAll_100 hl (k := 2) rfl (nI_1 _) (by decide) rfl (fun ls hl => ?_)
              refine lv_goto (tgt := 2) hx hb dX6_fitsAll_103 (by decide) ?_
              exact ihk1 (k1 + 1) (by omega) H locs ls hP hD hS (lv_sub hl [0, 3, 4, 5] rfl)
            · have hn33 := nneq (a := 1) (b := m30) (by omega) (by omega) c31
              refine lv_iconst (v := 0) hx hb dX6_fitsAll_98 (by decide) ?_
              exact xi hx hb hr hlocks rfl hP hD hS ⟨⟨0, by omega, rfl⟩, rfl⟩ (Nat.le_of_ble_eq_true rfl) (Nat.le_of_ble_eq_true rfl) dX6_fitsAll_99
        · have hn34 := nneq (a := m15) (b := 0) (by omega) (by omega) c16
          refine lv_aload_n hx hb dX6_fitsAll_29 rfl (lv_at hl 1 rfl) ?_
          refine va_get (D := g.1) (ci := 6) (v := Value.ref s_untoldAt) (C := RX6) (T := TX6) (N := 13) hx hb hts inlX6 hown hK hP 0 rfl rfl 6 (by decide) (hts _ q9_2) (fun _ h9 => h9) rfl dX6_fitsAll_30 ?_
          refine lv_iload_n hx hb dX6_fitsAll_33 rfl (lv_at hl 0 rfl) ?_
          refine ia_ld hx hb hK hP 5 1 rfl rfl (k1) rfl (by omega) (by decide) dX6_fitsAll_34 ?_
          refine lv_topi (fun x35 ex35 => ?_)
          refine lv_iload_n hx hb dX6_fitsAll_35 rfl (lv_at hl 3 rfl) ?_
          refine lv_icmp_le (tgt := 43) hx hb dX6_fitsAll_36 (by decide) (fun c36 => ?_) (fun c36 => ?_)
          · refine lv_iconst (v := 0) hx hb dX6_fitsAll_43 (by decide) ?_
            refine lv_istore (lv' := [(4, .int 0), (3, .int (nI k1)), (0, .ref h0), (1, .int (nI p0)), (2, .int p1)]) hx hb dX6_fitsAll_44 hl (by decide) rfl (fun ls hl => ?_)
            refine lv_aload_n hx hb dX6_fitsAll_46 rfl (lv_at hl 2 rfl) ?_
            refine va_get (D := g.1) (ci := 6) (v := Value.ref s_upBehind) (C := RX6) (T := TX6) (N := 13) hx hb hts inlX6 hown hK hP 0 rfl rfl 8 (by decide) (hts _ q9_4) (fun _ h9 => h9) rfl dX6_fitsAll_47 ?_
            refine lv_iload_n hx hb dX6_fitsAll_50 rfl (lv_at hl 3 rfl) ?_
            refine lv_bipush (v := 9) hx hb dX6_fitsAll_51 (by decide) ?_
            refine lv_imul hx hb dX6_fitsAll_53 ?_
            refine lv_tope (y := (nI (p0 * 9))) (pk_mul (p0) (9)) ?_
            refine lv_aload_n hx hb dX6_fitsAll_54 rfl (lv_at hl 2 rfl) ?_
            refine va_get (D := g.1) (ci := 6) (v := Value.ref s_corners) (C := RX6) (T := TX6) (N := 13) hx hb hts inlX6 hown hK hP 0 rfl rfl 2 (by decide) (hts _ q8_22) (fun _ h9 => h9) rfl dX6_fitsAll_55 ?_
            refine lv_iload_n hx hb dX6_fitsAll_58 rfl (lv_at hl 1 rfl) ?_
            refine ia_ld hx hb hK hP 1 1 rfl rfl (k1) rfl (by omega) (by decide) dX6_fitsAll_59 ?_
            obtain ⟨m37, hm37, em37⟩ := ht_s_corners (k1) (by omega)
            refine lv_tope em37 ?_
            refine lv_iadd hx hb dX6_fitsAll_60 ?_
            refine lv_tope (y := (nI (p0 * 9 + m37))) (nI_add (p0 * 9) (m37)) ?_
            refine ia_ld hx hb hK hP 7 1 rfl rfl (p0 * 9 + m37) rfl (by omega) (by decide) dX6_fitsAll_61 ?_
            refine lv_topi (fun x38 ex38 => ?_)
            refine lv_aload_n hx hb dX6_fitsAll_62 rfl (lv_at hl 2 rfl) ?_
            refine va_get (D := g.1) (ci := 6) (v := Value.ref s_guilds) (C := RX6) (T := TX6) (N := 13) hx hb hts inlX6 hown hK hP 0 rfl rfl 3 (by decide) (hts _ q8_23) (fun _ h9 => h9) rfl dX6_fitsAll_63 ?_
            refine lv_iload_n hx hb dX6_fitsAll_66 rfl (lv_at hl 1 rfl) ?_
            refine ia_ld hx hb hK hP 2 1 rfl rfl (k1) rfl (by omega) (by decide) dX6_fitsAll_67 ?_
            obtain ⟨m39, hm39, em39⟩ := ht_s_guilds (k1) (by omega)
            refine lv_tope em39 ?_
            refine lv_ishr hx hb dX6_fitsAll_68 ?_
            refine lv_topi (fun x40 ex40 => ?_)
            refine lv_iconst (v := 1) hx hb dX6_fitsAll_69 (by decide) ?_
            refine lv_iand hx hb dX6_fitsAll_70 ?_
            refine lv_topi (fun x41 ex41 => ?_)
            refine lv_iconst (v := 1) hx hb dX6_fitsAll_71 (by decide) ?_
            refine lv_icmp_ne (tgt := 79) hx hb dX6_fitsAll_72 (by decide) (fun c42 => ?_) (fun c42 => ?_)
            · refine lv_iconst (v := 0) hx hb dX6_fitsAll_79 (by decide) ?_
              refine lv_istore (lv' := [(5, .int 0), (4, .int 0), (3, .int (nI k1)), (0, .ref h0), (1, .int (nI p0)), (2, .int p1)]) hx hb dX6_fitsAll_80 hl (by decide) rfl (fun ls hl => ?_)
              refine lv_iload hx hb dX6_fitsAll_82 (lv_at hl 1 rfl) ?_
              refine lv_if_eq (tgt := 100) hx hb dX6_fitsAll_84 (by decide) (fun _ => ?_) (fun c43 => absurd (by decide) c43)
              refine lv_iinc (v := (nI (k1 + 1))) (lv' := [(3, .int (nI (k1 + 1))), (5, .int 0), (4, .int 0), (0, .ref h0), (1, .int (nI p0)), (2, .int p1)]) hx hb dX6_fitsAll_100 hl (k := 2) rfl (nI_1 _) (by decide) rfl (fun ls hl => ?_)
              refine lv_goto (tgt := 2) hx hb dX6_fitsAll_103 (by decide) ?_
              exact ihk1 (k1 + 1) (by omega) H locs ls hP hD hS (lv_sub hl [0, 3, 4, 5] rfl)
            · refine lv_iconst (v := 1) hx hb dX6_fitsAll_75 (by decide) ?_
              refine lv_goto (tgt := 80) hx hb dX6_fitsAll_76 (by decide) ?_
              refine lv_istore (lv' := [(5, .int 1), (4, .int 0), (3, .int (nI k1)), (0, .ref h0), (1, .int (nI p0)), (2, .int p1)]) hx hb dX6_fitsAll_80 hl (by decide) rfl (fun ls hl => ?_)
              refine lv_iload hx hb dX6_fitsAll_82 (lv_at hl 1 rfl) ?_
              refine lv_if_eq (tgt := 100) hx hb dX6_fitsAll_84 (by decide) (fun _ => ?_) (fun c44 => absurd (by decide) c44)
              refine lv_iinc (v := (nI (k1 + 1))) (lv' := [(3, .int (nI (k1 + 1))), (5, .int 1), (4, .int 0), (0, .ref h0), (1, .int (nI p0)), (2, .int p1)]) hx hb dX6_fitsAll_100 hl (k := 2) rfl (nI_1 _) (by decide) rfl (fun ls hl => ?_)
              refine lv_goto (tgt := 2) hx hb dX6_fitsAll_103 (by decide) ?_
              exact ihk1 (k1 + 1) (by omega) H locs ls hP hD hS (lv_sub hl [0, 3, 4, 5] rfl)
          · refine lv_iconst (v := 1) hx hb dX6_fitsAll_39 (by decide) ?_
            refine lv_goto (tgt := 44) hx hb dX6_fitsAll_40 (by decide) ?_
            refine lv_istore (lv' := [(4, .int 1), (3, .int (nI k1)), (0, .ref h0), (1, .int (nI p0)), (2, .int p1)]) hx hb dX6_fitsAll_44 hl (by decide) rfl (fun ls hl => ?_)
            refine lv_aload_n hx hb dX6_fitsAll_46 rfl (lv_at hl 2 rfl) ?_
            refine va_get (D := g.1) (ci := 6) (v := Value.ref s_upBehind) (C := RX6) (T := TX6) (N := 13) hx hb hts inlX6 hown hK hP 0 rfl rfl 8 (by decide) (hts _ q9_4) (fun _ h9 => h9) rfl dX6_fitsAll_47 ?_
            refine lv_iload_n hx hb dX6_fitsAll_50 rfl (lv_at hl 3 rfl) ?_
            refine lv_bipush (v := 9) hx hb dX6_fitsAll_51 (by decide) ?_
            refine lv_imul hx hb dX6_fitsAll_53 ?_
            refine lv_tope (y := (nI (p0 * 9))) (pk_mul (p0) (9)) ?_
            refine lv_aload_n hx hb dX6_fitsAll_54 rfl (lv_at hl 2 rfl) ?_
            refine va_get (D := g.1) (ci := 6) (v := Value.ref s_corners) (C := RX6) (T := TX6) (N := 13) hx hb hts inlX6 hown hK hP 0 rfl rfl 2 (by decide) (hts _ q8_22) (fun _ h9 => h9) rfl dX6_fitsAll_55 ?_
            refine lv_iload_n hx hb dX6_fitsAll_58 rfl (lv_at hl 1 rfl) ?_
            refine ia_ld hx hb hK hP 1 1 rfl rfl (k1) rfl (by omega) (by decide) dX6_fitsAll_59 ?_
            obtain ⟨m45, hm45, em45⟩ := ht_s_corners (k1) (by omega)
            refine lv_tope em45 ?_
            refine lv_iadd hx hb dX6_fitsAll_60 ?_
            refine lv_tope (y := (nI (p0 * 9 + m45))) (nI_add (p0 * 9) (m45)) ?_
            refine ia_ld hx hb hK hP 7 1 rfl rfl (p0 * 9 + m45) rfl (by omega) (by decide) dX6_fitsAll_61 ?_
            refine lv_topi (fun x46 ex46 => ?_)
            refine lv_aload_n hx hb dX6_fitsAll_62 rfl (lv_at hl 2 rfl) ?_
            refine va_get (D := g.1) (ci := 6) (v := Value.ref s_guilds) (C := RX6) (T := TX6) (N := 13) hx hb hts inlX6 hown hK hP 0 rfl rfl 3 (by decide) (hts _ q8_23) (fun _ h9 => h9) rfl dX6_fitsAll_63 ?_
            refine lv_iload_n hx hb dX6_fitsAll_66 rfl (lv_at hl 1 rfl) ?_
            refine ia_ld hx hb hK hP 2 1 rfl rfl (k1) rfl (by omega) (by decide) dX6_fitsAll_67 ?_
            obtain ⟨m47, hm47, em47⟩ := ht_s_guilds (k1) (by omega)
            refine lv_tope em47 ?_
            refine lv_ishr hx hb dX6_fitsAll_68 ?_
            refine lv_topi (fun x48 ex48 => ?_)
            refine lv_iconst (v := 1) hx hb dX6_fitsAll_69 (by decide) ?_
            refine lv_iand hx hb dX6_fitsAll_70 ?_
            refine lv_topi (fun x49 ex49 => ?_)
            refine lv_iconst (v := 1) hx hb dX6_fitsAll_71 (by decide) ?_
            refine lv_icmp_ne (tgt := 79) hx hb dX6_fitsAll_72 (by decide) (fun c50 => ?_) (fun c50 => ?_)
            · refine lv_iconst (v := 0) hx hb dX6_fitsAll_79 (by decide) ?_
              refine lv_istore (lv' := [(5, .int 0), (4, .int 1), (3, .int (nI k1)), (0, .ref h0), (1, .int (nI p0)), (2, .int p1)]) hx hb dX6_fitsAll_80 hl (by decide) rfl (fun ls hl => ?_)
              refine lv_iload hx hb dX6_fitsAll_82 (lv_at hl 1 rfl) ?_
              refine lv_if_eq (tgt := 100) hx hb dX6_fitsAll_84 (by decide) (fun c51 => absurd c51 (by decide)) (fun _ => ?_)
              refine lv_iload hx hb dX6_fitsAll_87 (lv_at hl 0 rfl) ?_
              refine lv_aload_n hx hb dX6_fitsAll_89 rfl (lv_at hl 3 rfl) ?_
              refine va_get (D := g.1) (ci := 6) (v := Value.ref s_wasUp) (C := RX6) (T := TX6) (N := 13) hx hb hts inlX6 hown hK hP 0 rfl rfl 4 (by decide) (hts _ q9_0) (fun _ h9 => h9) rfl dX6_fitsAll_90 ?_
              refine lv_iload_n hx hb dX6_fitsAll_93 rfl (lv_at hl 2 rfl) ?_
              refine za_ld hx hb hK hP 3 3 rfl rfl (k1) rfl (by omega) (by decide) dX6_fitsAll_94 ?_
              obtain ⟨m52, hm52, em52⟩ := ht_s_wasUp (k1) (by omega)
              refine lv_tope em52 ?_
              refine lv_icmp_eq (tgt := 100) hx hb dX6_fitsAll_95 (by decide) (fun c53 => ?_) (fun c53 => ?_)
              · have hn54 := neq (a := 0) (b := m52) (by omega) (by omega) c53
                refine lv_iinc (v := (nI (k1 + 1))) (lv' := [(3, .int (nI (k1 + 1))), (5, .int 0), (4, .int 1), (0, .ref h0), (1, .int (nI p0)), (2, .int p1)]) hx hb dX6_fitsAll_100 hl (k := 2) rfl (nI_1 _) (by decide) rfl (fun ls hl => ?_)
                refine lv_goto (tgt := 2) hx hb dX6_fitsAll_103 (by decide) ?_
                exact ihk1 (k1 + 1) (by omega) H locs ls hP hD hS (lv_sub hl [0, 3, 4, 5] rfl)
              · have hn55 := nneq (a := 0) (b := m52) (by omega) (by omega) c53
                refine lv_iconst (v := 0) hx hb dX6_fitsAll_98 (by decide) ?_
                exact xi hx hb hr hlocks rfl hP hD hS ⟨⟨0, by omega, rfl⟩, rfl⟩ (Nat.le_of_ble_eq_true rfl) (Nat.le_of_ble_eq_true rfl) dX6_fitsAll_99
            · refine lv_iconst (v := 1) hx hb dX6_fitsAll_75 (by decide) ?_
              refine lv_goto (tgt := 80) hx hb dX6_fitsAll_76 (by decide) ?_
              refine lv_istore (lv' := [(5, .int 1), (4, .int 1), (3, .int (nI k1)), (0, .ref h0), (1, .int (nI p0)), (2, .int p1)]) hx hb dX6_fitsAll_80 hl (by decide) rfl (fun ls hl => ?_)
              refine lv_iload hx hb dX6_fitsAll_82 (lv_at hl 1 rfl) ?_
              refine lv_if_eq (tgt := 100) hx hb dX6_fitsAll_84 (by decide) (fun c56 => absurd c56 (by decide)) (fun _ => ?_)
              refine lv_iload hx hb dX6_fitsAll_87 (lv_at hl 0 rfl) ?_
              refine lv_aload_n hx hb dX6_fitsAll_89 rfl (lv_at hl 3 rfl) ?_
              refine va_get (D := g.1) (ci := 6) (v := Value.ref s_wasUp) (C := RX6) (T := TX6) (N := 13) hx hb hts inlX6 hown hK hP 0 rfl rfl 4 (by decide) (hts _ q9_0) (fun _ h9 => h9) rfl dX6_fitsAll_90 ?_
              refine lv_iload_n hx hb dX6_fitsAll_93 rfl (lv_at hl 2 rfl) ?_
              refine za_ld hx hb hK hP 3 3 rfl rfl (k1) rfl (by omega) (by decide) dX6_fitsAll_94 ?_
              obtain ⟨m57, hm57, em57⟩ := ht_s_wasUp (k1) (by omega)
              refine lv_tope em57 ?_
              refine lv_icmp_eq (tgt := 100) hx hb dX6_fitsAll_95 (by decide) (fun c58 => ?_) (fun c58 => ?_)
              · have hn59 := neq (a := 1) (b := m57) (by omega) (by omega) c58
                refine lv_iinc (v := (nI (k1 + 1))) (lv' := [(3, .int (nI (k1 + 1))), (5, .int 1), (4, .int 1), (0, .ref h0), (1, .int (nI p0)), (2, .int p1)]) hx hb dX6_fitsAll_100 hl (k := 2) rfl (nI_1 _) (by decide) rfl (fun ls hl => ?_)
                refine lv_goto (tgt := 2) hx hb dX6_fitsAll_103 (by decide) ?_
                exact ihk1 (k1 + 1) (by omega) H locs ls hP hD hS (lv_sub hl [0, 3, 4, 5] rfl)
              · have hn60 := nneq (a := 1) (b := m57) (by omega) (by omega) c58
                refine lv_iconst (v := 0) hx hb dX6_fitsAll_98 (by decide) ?_
                exact xi hx hb hr hlocks rfl hP hD hS ⟨⟨0, by omega, rfl⟩, rfl⟩ (Nat.le_of_ble_eq_true rfl) (Nat.le_of_ble_eq_true rfl) dX6_fitsAll_99
  exact loop2 (h0_count - (0)) (0) (by omega) H locs ls hP hD hS hl
