theorem i_m1 {v : Int32} (h : ¬ v < 0) : (-1 : Int32) < v := by
  rw [Int32.lt_iff_toInt_lt] at h ⊢
  have e0 : (0 : Int32).toInt = 0 := by decide
  have e1 : (-1 : Int32).toInt = -1 := by decide
  omega
set_option maxHeartbeats 4000000 in
set_option maxRecDepth 100000 in
theorem c_X9_hasGuild {l : Launch} {g : Gx} {h0 : Nat} {p0 : Int32} {h0_corners : Int32} {h0_gustyCorners : Int32} {h0_draw : Int32} {h0_drawTold : Int32} {h0_cornerNames : Value} {h0_winds : Value} {h0_lees : Value} {h0_gustChances : Value} {h0_gusts : Value} {h0_guildNames : Value} {h0_cloths : Value} {h0_trues : Value} {h0_strengths : Value} {h0_reefs : Value} {h0_pull : Value} {h0_hold : Value} : MI l g yX9_hasGuild cX9_hasGuild 2 (some .boolean) 2 0 0 [.ref h0, .int p0] [(h0, .inr (9, [.int h0_corners, .int h0_gustyCorners, .int 0, .int h0_draw, .int h0_drawTold, h0_cornerNames, h0_winds, h0_lees, h0_gustChances, h0_gusts, h0_guildNames, h0_cloths, h0_trues, h0_strengths, h0_reefs, h0_pull, h0_hold]))] (fun r W' => 0 = r ∧ W' = [(h0, .inr (9, [.int h0_corners, .int h0_gustyCorners, .int 0, .int h0_draw, .int h0_drawTold, h0_cornerNames, h0_winds, h0_lees, h0_gustChances, h0_gusts, h0_guildNames, h0_cloths, h0_trues, h0_strengths, h0_reefs, h0_pull, h0_hold]))]) := by
  refine MIof (by decide) (Nat.le_of_ble_eq_true rfl) ?_
  intro p e s m below meth c A ls H locs hcx hA hP hD hS hl
  obtain ⟨hx, hb, hml, hr, hlocks, hown, hts, hE, hnm⟩ := id hcx
  have hown : s.vm.findClass RX9 = some m.cls := hown
  have hK := hE.1
  have hl : lv_has ls 2 [(0, .ref h0), (1, .int p0)] := hl
  refine lv_iload_n hx hb dX9_hasGuild_0 rfl (lv_at hl 1 rfl) ?_
  refine lv_if_lt (tgt := 16) hx hb dX9_hasGuild_1 (by decide) (fun c1 => ?_) (fun c1 => ?_)
  · refine lv_iconst (v := 0) hx hb dX9_hasGuild_16 (by decide) ?_
    exact xi hx hb hr hlocks rfl hP hD hS ⟨rfl, rfl⟩ (Nat.le_of_ble_eq_true rfl) (Nat.le_of_ble_eq_true rfl) dX9_hasGuild_17
  · refine lv_iload_n hx hb dX9_hasGuild_4 rfl (lv_at hl 1 rfl) ?_
    refine lv_aload_n hx hb dX9_hasGuild_5 rfl (lv_at hl 0 rfl) ?_
    refine va_get (D := g.1) (ci := 9) (v := Value.int 0) (C := RX9) (T := TX9) (N := 17) hx hb hts inlX9 hown hK hP 0 rfl rfl 2 (by decide) (hts _ q9_14) (fun _ h9 => h9) rfl dX9_hasGuild_6 ?_
    refine lv_icmp_ge (tgt := 16) hx hb dX9_hasGuild_9 (by decide) (fun _ => ?_) (fun c2 => absurd (Int32.not_lt.mp c1) c2)
    refine lv_iconst (v := 0) hx hb dX9_hasGuild_16 (by decide) ?_
    exact xi hx hb hr hlocks rfl hP hD hS ⟨rfl, rfl⟩ (Nat.le_of_ble_eq_true rfl) (Nat.le_of_ble_eq_true rfl) dX9_hasGuild_17

set_option maxHeartbeats 4000000 in
set_option maxRecDepth 100000 in
theorem c_X9_allGuilds {l : Launch} {g : Gx} {h0 : Nat} {h0_corners : Int32} {h0_gustyCorners : Int32} {h0_draw : Int32} {h0_drawTold : Int32} {h0_cornerNames : Value} {h0_winds : Value} {h0_lees : Value} {h0_gustChances : Value} {h0_gusts : Value} {h0_guildNames : Value} {h0_cloths : Value} {h0_trues : Value} {h0_strengths : Value} {h0_reefs : Value} {h0_pull : Value} {h0_hold : Value} : MI l g yX9_allGuilds cX9_allGuilds 1 (some .int) 2 0 0 [.ref h0] [(h0, .inr (9, [.int h0_corners, .int h0_gustyCorners, .int 0, .int h0_draw, .int h0_drawTold, h0_cornerNames, h0_winds, h0_lees, h0_gustChances, h0_gusts, h0_guildNames, h0_cloths, h0_trues, h0_strengths, h0_reefs, h0_pull, h0_hold]))] (fun r W' => 0 = r ∧ W' = [(h0, .inr (9, [.int h0_corners, .int h0_gustyCorners, .int 0, .int h0_draw, .int h0_drawTold, h0_cornerNames, h0_winds, h0_lees, h0_gustChances, h0_gusts, h0_guildNames, h0_cloths, h0_trues, h0_strengths, h0_reefs, h0_pull, h0_hold]))]) := by
  refine MIof (by decide) (Nat.le_of_ble_eq_true rfl) ?_
  intro p e s m below meth c A ls H locs hcx hA hP hD hS hl
  obtain ⟨hx, hb, hml, hr, hlocks, hown, hts, hE, hnm⟩ := id hcx
  have hown : s.vm.findClass RX9 = some m.cls := hown
  have hK := hE.1
  have hl : lv_has ls 1 [(0, .ref h0)] := hl
  refine lv_iconst (v := 1) hx hb dX9_allGuilds_0 (by decide) ?_
  refine lv_aload_n hx hb dX9_allGuilds_1 rfl (lv_at hl 0 rfl) ?_
  refine va_get (D := g.1) (ci := 9) (v := Value.int 0) (C := RX9) (T := TX9) (N := 17) hx hb hts inlX9 hown hK hP 0 rfl rfl 2 (by decide) (hts _ q9_14) (fun _ h9 => h9) rfl dX9_allGuilds_2 ?_
  refine lv_ishl hx hb dX9_allGuilds_5 ?_
  refine lv_tope (y := 1) (by decide) ?_
  refine lv_iconst (v := 1) hx hb dX9_allGuilds_6 (by decide) ?_
  refine lv_isub hx hb dX9_allGuilds_7 ?_
  refine lv_tope (y := 0) (by decide) ?_
  exact xi hx hb hr hlocks rfl hP hD hS ⟨rfl, rfl⟩ (Nat.le_of_ble_eq_true rfl) (Nat.le_of_ble_eq_true rfl) dX9_allGuilds_8

set_option maxHeartbeats 4000000 in
set_option maxRecDepth 100000 in
theorem c_X0_isRound {l : Launch} {g : Gx} {h0 h1 h2 : Nat} {h0_values : Value} {h0_pull : Int32} {h0_hold : Int32} {h1_order : Value} {h1_reefs : Value} {h1_children : Value} {h1_hosts : Value} {h1_guests : Value} {h1_up : Int32} {h1_day : Int32} {h1_seed : Int32} {h1_firstTrue : Int32} {h2_gustyCorners : Int32} {h2_guilds : Int32} {h2_draw : Int32} {h2_drawTold : Int32} {h2_cornerNames : Value} {h2_winds : Value} {h2_lees : Value} {h2_gustChances : Value} {h2_gusts : Value} {h2_guildNames : Value} {h2_cloths : Value} {h2_trues : Value} {h2_strengths : Value} {h2_reefs : Value} {h2_pull : Value} {h2_hold : Value} : MI l g yX0_isRound cX0_isRound 2 (some .boolean) 2 0 0 [.ref h0, .ref h1] [(h0, .inr (0, [.ref h2, h0_values, .int h0_pull, .int h0_hold])), (h1, .inr (7, [h1_order, h1_reefs, h1_children, h1_hosts, h1_guests, .int h1_up, .int 0, .int h1_day, .int h1_seed, .int h1_firstTrue])), (h2, .inr (9, [.int 0, .int h2_gustyCorners, .int h2_guilds, .int h2_draw, .int h2_drawTold, h2_cornerNames, h2_winds, h2_lees, h2_gustChances, h2_gusts, h2_guildNames, h2_cloths, h2_trues, h2_strengths, h2_reefs, h2_pull, h2_hold]))] (fun r W' => 1 = r ∧ W' = [(h0, .inr (0, [.ref h2, h0_values, .int h0_pull, .int h0_hold])), (h1, .inr (7, [h1_order, h1_reefs, h1_children, h1_hosts, h1_guests, .int h1_up, .int 0, .int h1_day, .int h1_seed, .int h1_firstTrue])), (h2, .inr (9, [.int 0, .int h2_gustyCorners, .int h2_guilds, .int h2_draw, .int h2_drawTold, h2_cornerNames, h2_winds, h2_lees, h2_gustChances, h2_gusts, h2_guildNames, h2_cloths, h2_trues, h2_strengths, h2_reefs, h2_pull, h2_hold]))]) := by
  refine MIof (by decide) (Nat.le_of_ble_eq_true rfl) ?_
  intro p e s m below meth c A ls H locs hcx hA hP hD hS hl
  obtain ⟨hx, hb, hml, hr, hlocks, hown, hts, hE, hnm⟩ := id hcx
  have hown : s.vm.findClass RX0 = some m.cls := hown
  have hK := hE.1
  have hl : lv_has ls 2 [(0, .ref h0), (1, .ref h1)] := hl
  refine lv_aload_n hx hb dX0_isRound_0 rfl (lv_at hl 1 rfl) ?_
  refine va_get (D := g.1) (ci := 7) (v := Value.int 0) (C := RX7) (T := TX7) (N := 10) hx hb hts inlX7 hown hK hP 1 rfl rfl 6 (by decide) (hts _ q37_17) (fun _ h9 => h9) rfl dX0_isRound_1 ?_
  refine lv_aload_n hx hb dX0_isRound_4 rfl (lv_at hl 0 rfl) ?_
  refine va_get (D := g.1) (ci := 0) (v := Value.ref h2) (C := RX0) (T := TX0) (N := 4) hx hb hts inlX0 hown hK hP 0 rfl rfl 0 (by decide) (hts _ q7_4) (fun _ h9 => h9) rfl dX0_isRound_5 ?_
  refine va_get (D := g.1) (ci := 9) (v := Value.int 0) (C := RX9) (T := TX9) (N := 17) hx hb hts inlX9 hown hK hP 2 rfl rfl 0 (by decide) (hts _ q37_18) (fun _ h9 => h9) rfl dX0_isRound_8 ?_
  refine lv_icmp_lt (tgt := 18) hx hb dX0_isRound_11 (by decide) (fun c1 => absurd c1 (by decide)) (fun _ => ?_)
  refine lv_iconst (v := 1) hx hb dX0_isRound_14 (by decide) ?_
  refine lv_goto (tgt := 19) hx hb dX0_isRound_15 (by decide) ?_
  exact xi hx hb hr hlocks rfl hP hD hS ⟨rfl, rfl⟩ (Nat.le_of_ble_eq_true rfl) (Nat.le_of_ble_eq_true rfl) dX0_isRound_19

set_option maxHeartbeats 4000000 in
set_option maxRecDepth 100000 in
theorem c_X3_clear {l : Launch} {g : Gx} {h0 : Nat} {h0_numbers : Value} {h0_count : Int32} : MV l g yX3_clear cX3_clear 1 2 0 0 [.ref h0] [(h0, .inr (3, [h0_numbers, .int h0_count]))] (fun W' => W' = [(h0, .inr (3, [h0_numbers, .int 0]))]) := by
  refine MVof (by decide) (Nat.le_of_ble_eq_true rfl) ?_
  intro p e s m below meth c A ls H locs hcx hA hP hD hS hl
  obtain ⟨hx, hb, hml, hr, hlocks, hown, hts, hE, hnm⟩ := id hcx
  have hown : s.vm.findClass RX3 = some m.cls := hown
  have hK := hE.1
  have hl : lv_has ls 1 [(0, .ref h0)] := hl
  refine lv_aload_n hx hb dX3_clear_0 rfl (lv_at hl 0 rfl) ?_
  refine lv_iconst (v := 0) hx hb dX3_clear_1 (by decide) ?_
  refine va_put (D := g.1) (ci := 3) (v := Value.int 0) (ty := .int) (C := RX3) (T := TX3) (N := 2) hx hb hts inlX3 tyX3 tyX3_ok nmX3 hown hK hP hD hS 0 rfl rfl 1 (by decide) (hts _ q12_4) (fun _ h9 => h9) rfl (by decide +kernel) rfl rfl (Nat.le_of_ble_eq_true rfl) dX3_clear_2 (fun H locs hP hD hS => ?_)
  have hP : va_P g.1 vwCl [(h0, .inr (3, [h0_numbers, .int 0]))] H := hP
  have hD : va_D A [(h0, .inr (3, [h0_numbers, .int 0]))] := hD
  exact xv hx hb hr hlocks hP hD hS rfl (Nat.le_of_ble_eq_true rfl) (Nat.le_of_ble_eq_true rfl) dX3_clear_5

set_option maxHeartbeats 4000000 in
set_option maxRecDepth 100000 in
theorem c_X3_at {l : Launch} {g : Gx} {h0 : Nat} {p0 : Int32} {h0_numbers : Value} : MI l g yX3_at cX3_at 2 (some .int) 2 0 0 [.ref h0, .int p0] [(h0, .inr (3, [h0_numbers, .int 0]))] (fun r W' => (-2) = r ∧ W' = [(h0, .inr (3, [h0_numbers, .int 0]))]) := by
  refine MIof (by decide) (Nat.le_of_ble_eq_true rfl) ?_
  intro p e s m below meth c A ls H locs hcx hA hP hD hS hl
  obtain ⟨hx, hb, hml, hr, hlocks, hown, hts, hE, hnm⟩ := id hcx
  have hown : s.vm.findClass RX3 = some m.cls := hown
  have hK := hE.1
  have hl : lv_has ls 2 [(0, .ref h0), (1, .int p0)] := hl
  refine lv_iload_n hx hb dX3_at_0 rfl (lv_at hl 1 rfl) ?_
  refine lv_if_lt (tgt := 21) hx hb dX3_at_1 (by decide) (fun c1 => ?_) (fun c1 => ?_)
  · refine lv_bipush (v := (-2)) hx hb dX3_at_21 (by decide) ?_
    exact xi hx hb hr hlocks rfl hP hD hS ⟨rfl, rfl⟩ (Nat.le_of_ble_eq_true rfl) (Nat.le_of_ble_eq_true rfl) dX3_at_23
  · refine lv_iload_n hx hb dX3_at_4 rfl (lv_at hl 1 rfl) ?_
    refine lv_aload_n hx hb dX3_at_5 rfl (lv_at hl 0 rfl) ?_
    refine va_get (D := g.1) (ci := 3) (v := Value.int 0) (C := RX3) (T := TX3) (N := 2) hx hb hts inlX3 hown hK hP 0 rfl rfl 1 (by decide) (hts _ q12_4) (fun _ h9 => h9) rfl dX3_at_6 ?_
    refine lv_icmp_ge (tgt := 21) hx hb dX3_at_9 (by decide) (fun _ => ?_) (fun c2 => absurd (Int32.not_lt.mp c1) c2)
    refine lv_bipush (v := (-2)) hx hb dX3_at_21 (by decide) ?_
    exact xi hx hb hr hlocks rfl hP hD hS ⟨rfl, rfl⟩ (Nat.le_of_ble_eq_true rfl) (Nat.le_of_ble_eq_true rfl) dX3_at_23

set_option maxHeartbeats 4000000 in
set_option maxRecDepth 100000 in
theorem c_X6_clear {l : Launch} {g : Gx} {h0 : Nat} {h0_course : Value} {h0_trial : Value} {h0_corners : Value} {h0_guilds : Value} {h0_wasUp : Value} {h0_toldAt : Value} {h0_untoldAt : Value} {h0_untold : Value} {h0_upBehind : Value} {h0_fitting : Value} {h0_groups : Value} {h0_isWalked : Int32} {h0_count : Int32} : MV l g yX6_clear cX6_clear 1 2 0 0 [.ref h0] [(h0, .inr (6, [h0_course, h0_trial, h0_corners, h0_guilds, h0_wasUp, h0_toldAt, h0_untoldAt, h0_untold, h0_upBehind, h0_fitting, h0_groups, .int h0_isWalked, .int h0_count]))] (fun W' => W' = [(h0, .inr (6, [h0_course, h0_trial, h0_corners, h0_guilds, h0_wasUp, h0_toldAt, h0_untoldAt, h0_untold, h0_upBehind, h0_fitting, h0_groups, .int 0, .int 0]))]) := by
  refine MVof (by decide) (Nat.le_of_ble_eq_true rfl) ?_
  intro p e s m below meth c A ls H locs hcx hA hP hD hS hl
  obtain ⟨hx, hb, hml, hr, hlocks, hown, hts, hE, hnm⟩ := id hcx
  have hown : s.vm.findClass RX6 = some m.cls := hown
  have hK := hE.1
  have hl : lv_has ls 1 [(0, .ref h0)] := hl
  refine lv_aload_n hx hb dX6_clear_0 rfl (lv_at hl 0 rfl) ?_
  refine lv_iconst (v := 0) hx hb dX6_clear_1 (by decide) ?_
  refine va_put (D := g.1) (ci := 6) (v := Value.int 0) (ty := .int) (C := RX6) (T := TX6) (N := 13) hx hb hts inlX6 tyX6 tyX6_ok nmX6 hown hK hP hD hS 0 rfl rfl 12 (by decide) (hts _ q12_9) (fun _ h9 => h9) rfl (by decide +kernel) rfl rfl (Nat.le_of_ble_eq_true rfl) dX6_clear_2 (fun H locs hP hD hS => ?_)
  have hP : va_P g.1 vwCl [(h0, .inr (6, [h0_course, h0_trial, h0_corners, h0_guilds, h0_wasUp, h0_toldAt, h0_untoldAt, h0_untold, h0_upBehind, h0_fitting, h0_groups, .int h0_isWalked, .int 0]))] H := hP
  have hD : va_D A [(h0, .inr (6, [h0_course, h0_trial, h0_corners, h0_guilds, h0_wasUp, h0_toldAt, h0_untoldAt, h0_untold, h0_upBehind, h0_fitting, h0_groups, .int h0_isWalked, .int 0]))] := hD
  refine lv_aload_n hx hb dX6_clear_5 rfl (lv_at hl 0 rfl) ?_
  refine lv_iconst (v := 0) hx hb dX6_clear_6 (by decide) ?_
  refine va_put (D := g.1) (ci := 6) (v := Value.int 0) (ty := .boolean) (C := RX6) (T := TX6) (N := 13) hx hb hts inlX6 tyX6 tyX6_ok nmX6 hown hK hP hD hS 0 rfl rfl 11 (by decide) (hts _ q12_10) (fun _ h9 => h9) rfl (by decide +kernel) rfl rfl (Nat.le_of_ble_eq_true rfl) dX6_clear_7 (fun H locs hP hD hS => ?_)
  have hP : va_P g.1 vwCl [(h0, .inr (6, [h0_course, h0_trial, h0_corners, h0_guilds, h0_wasUp, h0_toldAt, h0_untoldAt, h0_untold, h0_upBehind, h0_fitting, h0_groups, .int 0, .int 0]))] H := hP
  have hD : va_D A [(h0, .inr (6, [h0_course, h0_trial, h0_corners, h0_guilds, h0_wasUp, h0_toldAt, h0_untoldAt, h0_untold, h0_upBehind, h0_fitting, h0_groups, .int 0, .int 0]))] := hD
  exact xv hx hb hr hlocks hP hD hS rfl (Nat.le_of_ble_eq_true rfl) (Nat.le_of_ble_eq_true rfl) dX6_clear_10

set_option maxHeartbeats 4000000 in
set_option maxRecDepth 100000 in
theorem c_X6_takeBack {l : Launch} {g : Gx} {h0 : Nat} {p0 : Int32} {p1 : Int32} {h0_course : Value} {h0_trial : Value} {h0_corners : Value} {h0_guilds : Value} {h0_wasUp : Value} {h0_toldAt : Value} {h0_untoldAt : Value} {h0_untold : Value} {h0_upBehind : Value} {h0_fitting : Value} {h0_groups : Value} {h0_isWalked : Int32} : MI l g yX6_takeBack cX6_takeBack 3 (some .boolean) 2 0 0 [.ref h0, .int p0, .int p1] [(h0, .inr (6, [h0_course, h0_trial, h0_corners, h0_guilds, h0_wasUp, h0_toldAt, h0_untoldAt, h0_untold, h0_upBehind, h0_fitting, h0_groups, .int h0_isWalked, .int 0]))] (fun r W' => 0 = r ∧ W' = [(h0, .inr (6, [h0_course, h0_trial, h0_corners, h0_guilds, h0_wasUp, h0_toldAt, h0_untoldAt, h0_untold, h0_upBehind, h0_fitting, h0_groups, .int h0_isWalked, .int 0]))]) := by
  refine MIof (by decide) (Nat.le_of_ble_eq_true rfl) ?_
  intro p e s m below meth c A ls H locs hcx hA hP hD hS hl
  obtain ⟨hx, hb, hml, hr, hlocks, hown, hts, hE, hnm⟩ := id hcx
  have hown : s.vm.findClass RX6 = some m.cls := hown
  have hK := hE.1
  have hl : lv_has ls 3 [(0, .ref h0), (1, .int p0), (2, .int p1)] := hl
  refine lv_iload_n hx hb dX6_takeBack_0 rfl (lv_at hl 1 rfl) ?_
  refine lv_if_lt (tgt := 21) hx hb dX6_takeBack_1 (by decide) (fun c1 => ?_) (fun c1 => ?_)
  · refine lv_iconst (v := 0) hx hb dX6_takeBack_21 (by decide) ?_
    exact xi hx hb hr hlocks rfl hP hD hS ⟨rfl, rfl⟩ (Nat.le_of_ble_eq_true rfl) (Nat.le_of_ble_eq_true rfl) dX6_takeBack_22
  · refine lv_iload_n hx hb dX6_takeBack_4 rfl (lv_at hl 1 rfl) ?_
    refine lv_aload_n hx hb dX6_takeBack_5 rfl (lv_at hl 0 rfl) ?_
    refine va_get (D := g.1) (ci := 6) (v := Value.int 0) (C := RX6) (T := TX6) (N := 13) hx hb hts inlX6 hown hK hP 0 rfl rfl 12 (by decide) (hts _ q12_9) (fun _ h9 => h9) rfl dX6_takeBack_6 ?_
    refine lv_icmp_ge (tgt := 21) hx hb dX6_takeBack_9 (by decide) (fun _ => ?_) (fun c2 => absurd (Int32.not_lt.mp c1) c2)
    refine lv_iconst (v := 0) hx hb dX6_takeBack_21 (by decide) ?_
    exact xi hx hb hr hlocks rfl hP hD hS ⟨rfl, rfl⟩ (Nat.le_of_ble_eq_true rfl) (Nat.le_of_ble_eq_true rfl) dX6_takeBack_22

set_option maxHeartbeats 4000000 in
set_option maxRecDepth 100000 in
theorem c_X10_isBearerUp {l : Launch} {g : Gx} {h0 h1 : Nat} {p0 : Int32} {h0_tape : Value} {h0_tapeLength : Int32} {h0_reader : Value} {h0_draft : Value} {h0_course : Value} {h0_now : Value} {h0_history : Value} {h0_boxes : Value} {h0_boxFilled : Value} {h0_lying : Value} {h0_outlook : Value} {h0_sightings : Value} {h0_time : Int32} {h1_corners : Int32} {h1_gustyCorners : Int32} {h1_draw : Int32} {h1_drawTold : Int32} {h1_cornerNames : Value} {h1_winds : Value} {h1_lees : Value} {h1_gustChances : Value} {h1_gusts : Value} {h1_guildNames : Value} {h1_cloths : Value} {h1_trues : Value} {h1_strengths : Value} {h1_reefs : Value} {h1_pull : Value} {h1_hold : Value} : MI l g yX10_isBearerUp cX10_isBearerUp 2 (some .boolean) 3 0 0 [.ref h0, .int p0] [(h0, .inr (10, [h0_tape, .int h0_tapeLength, h0_reader, h0_draft, .ref h1, h0_course, h0_now, h0_history, h0_boxes, h0_boxFilled, h0_lying, h0_outlook, h0_sightings, .int h0_time])), (h1, .inr (9, [.int h1_corners, .int h1_gustyCorners, .int 0, .int h1_draw, .int h1_drawTold, h1_cornerNames, h1_winds, h1_lees, h1_gustChances, h1_gusts, h1_guildNames, h1_cloths, h1_trues, h1_strengths, h1_reefs, h1_pull, h1_hold]))] (fun r W' => 0 = r ∧ W' = [(h0, .inr (10, [h0_tape, .int h0_tapeLength, h0_reader, h0_draft, .ref h1, h0_course, h0_now, h0_history, h0_boxes, h0_boxFilled, h0_lying, h0_outlook, h0_sightings, .int h0_time])), (h1, .inr (9, [.int h1_corners, .int h1_gustyCorners, .int 0, .int h1_draw, .int h1_drawTold, h1_cornerNames, h1_winds, h1_lees, h1_gustChances, h1_gusts, h1_guildNames, h1_cloths, h1_trues, h1_strengths, h1_reefs, h1_pull, h1_hold]))]) := by
  refine MIof (by decide) (Nat.le_of_ble_eq_true rfl) ?_
  intro p e s m below meth c A ls H locs hcx hA hP hD hS hl
  obtain ⟨hx, hb, hml, hr, hlocks, hown, hts, hE, hnm⟩ := id hcx
  have hown : s.vm.findClass RX10 = some m.cls := hown
  have hK := hE.1
  have hl : lv_has ls 2 [(0, .ref h0), (1, .int p0)] := hl
  refine lv_aload_n hx hb dX10_isBearerUp_0 rfl (lv_at hl 0 rfl) ?_
  refine va_get (D := g.1) (ci := 10) (v := Value.ref h1) (C := RX10) (T := TX10) (N := 14) hx hb hts inlX10 hown hK hP 0 rfl rfl 4 (by decide) (hts _ q1_22) (fun _ h9 => h9) rfl dX10_isBearerUp_1 ?_
  refine lv_iload_n hx hb dX10_isBearerUp_4 rfl (lv_at hl 1 rfl) ?_
  refine kI (wc := [(h1, .inr (9, [.int h1_corners, .int h1_gustyCorners, .int 0, .int h1_draw, .int h1_drawTold, h1_cornerNames, h1_winds, h1_lees, h1_gustChances, h1_gusts, h1_guildNames, h1_cloths, h1_trues, h1_strengths, h1_reefs, h1_pull, h1_hold]))]) (wr := [(h0, .inr (10, [h0_tape, .int h0_tapeLength, h0_reader, h0_draft, .ref h1, h0_course, h0_now, h0_history, h0_boxes, h0_boxFilled, h0_lying, h0_outlook, h0_sightings, .int h0_time]))]) (rV (As := [.int p0]) (rest := []) (meth2 := "") hcx (c_X9_hasGuild H.size) (gdV q32_17 q32_18 q32_19 q1_20 q32_20) dvX9_hasGuild ⟨Nat.le_of_ble_eq_true rfl, Nat.le_of_ble_eq_true rfl⟩ (hP.sub [1] rfl) (hD.sub [1] (by decide) rfl) (va_recv hK hP (ci := 9) (q0 := 1) rfl rfl) rfl hl.1 rfl (Nat.le_of_ble_eq_true rfl) dX10_isBearerUp_5 ⟨Nat.le_of_ble_eq_true rfl, Nat.le_of_ble_eq_true rfl⟩) hP hD hS hA [1] [0] rfl rfl (by decide) (by decide) (fun r W' H locs hw hP hD hS => ?_)
  obtain ⟨rfl, rfl⟩ := hw
  have hP : va_P g.1 vwCl [(h0, .inr (10, [h0_tape, .int h0_tapeLength, h0_reader, h0_draft, .ref h1, h0_course, h0_now, h0_history, h0_boxes, h0_boxFilled, h0_lying, h0_outlook, h0_sightings, .int h0_time])), (h1, .inr (9, [.int h1_corners, .int h1_gustyCorners, .int 0, .int h1_draw, .int h1_drawTold, h1_cornerNames, h1_winds, h1_lees, h1_gustChances, h1_gusts, h1_guildNames, h1_cloths, h1_trues, h1_strengths, h1_reefs, h1_pull, h1_hold]))] H := hP
  have hD : va_D A [(h0, .inr (10, [h0_tape, .int h0_tapeLength, h0_reader, h0_draft, .ref h1, h0_course, h0_now, h0_history, h0_boxes, h0_boxFilled, h0_lying, h0_outlook, h0_sightings, .int h0_time])), (h1, .inr (9, [.int h1_corners, .int h1_gustyCorners, .int 0, .int h1_draw, .int h1_drawTold, h1_cornerNames, h1_winds, h1_lees, h1_gustChances, h1_gusts, h1_guildNames, h1_cloths, h1_trues, h1_strengths, h1_reefs, h1_pull, h1_hold]))] := hD
  refine lv_if_eq (tgt := 26) hx hb dX10_isBearerUp_8 (by decide) (fun _ => ?_) (fun c1 => absurd (by decide) c1)
  refine lv_iconst (v := 0) hx hb dX10_isBearerUp_26 (by decide) ?_
  exact xi hx hb hr hlocks rfl hP hD hS ⟨rfl, rfl⟩ (Nat.le_of_ble_eq_true rfl) (Nat.le_of_ble_eq_true rfl) dX10_isBearerUp_27

set_option maxHeartbeats 4000000 in
set_option maxRecDepth 100000 in
theorem c_X11_many {l : Launch} {g : Gx} {h0 a0 : Nat} {fs : List Value} {f_a0 : Nat → Int32} (hl_fs : fs.length = 69) (h_fs_guilds : fs[12]? = some (Value.ref a0)) (h_fs_bank : fs[34]? = some (Value.int 0)) (h_f_a0_0 : f_a0 0 = 0) : MI l g yX11_many cX11_many 1 (some .int) 2 0 0 [.ref h0] [(h0, .inr (11, fs)), (a0, .inl (gI g, 2, .inl f_a0))] (fun r W' => 0 = r ∧ W' = [(h0, .inr (11, fs)), (a0, .inl (gI g, 2, .inl f_a0))]) := by
  refine MIof (by decide) (Nat.le_of_ble_eq_true rfl) ?_
  intro p e s m below meth c A ls H locs hcx hA hP hD hS hl
  obtain ⟨hx, hb, hml, hr, hlocks, hown, hts, hE, hnm⟩ := id hcx
  have hown : s.vm.findClass RX11 = some m.cls := hown
  have hK := hE.1
  have hl : lv_has ls 1 [(0, .ref h0)] := hl
  refine lv_aload_n hx hb dX11_many_0 rfl (lv_at hl 0 rfl) ?_
  refine va_get (D := g.1) (ci := 11) (v := Value.ref a0) (C := RX11) (T := TX11) (N := 69) hx hb hts inlX11 hown hK hP 0 rfl rfl 12 (by decide) (hts _ q12_19) (fun _ h9 => h9) h_fs_guilds dX11_many_1 ?_
  refine lv_aload_n hx hb dX11_many_4 rfl (lv_at hl 0 rfl) ?_
  refine va_get (D := g.1) (ci := 11) (v := Value.int 0) (C := RX11) (T := TX11) (N := 69) hx hb hts inlX11 hown hK hP 0 rfl rfl 34 (by decide) (hts _ q14_21) (fun _ h9 => h9) h_fs_bank dX11_many_5 ?_
  refine ia_ld hx hb hK hP 1 1 rfl rfl (0) rfl (by decide) (by decide) dX11_many_8 ?_
  refine lv_tope (y := 0) h_f_a0_0 ?_
  exact xi hx hb hr hlocks rfl hP hD hS ⟨rfl, rfl⟩ (Nat.le_of_ble_eq_true rfl) (Nat.le_of_ble_eq_true rfl) dX11_many_9

set_option maxHeartbeats 4000000 in
set_option maxRecDepth 100000 in
theorem c_X11_ways {l : Launch} {g : Gx} {h0 a1 : Nat} {fs : List Value} {f_a1 : Nat → Int32} (hl_fs : fs.length = 69) (h_fs_corners : fs[11]? = some (Value.ref a1)) (h_fs_bank : fs[34]? = some (Value.int 0)) (h_f_a1_0 : f_a1 0 = 0) : MI l g yX11_ways cX11_ways 1 (some .int) 2 0 0 [.ref h0] [(h0, .inr (11, fs)), (a1, .inl (gI g, 2, .inl f_a1))] (fun r W' => 0 = r ∧ W' = [(h0, .inr (11, fs)), (a1, .inl (gI g, 2, .inl f_a1))]) := by
  refine MIof (by decide) (Nat.le_of_ble_eq_true rfl) ?_
  intro p e s m below meth c A ls H locs hcx hA hP hD hS hl
  obtain ⟨hx, hb, hml, hr, hlocks, hown, hts, hE, hnm⟩ := id hcx
  have hown : s.vm.findClass RX11 = some m.cls := hown
  have hK := hE.1
  have hl : lv_has ls 1 [(0, .ref h0)] := hl
  refine lv_aload_n hx hb dX11_ways_0 rfl (lv_at hl 0 rfl) ?_
  refine va_get (D := g.1) (ci := 11) (v := Value.ref a1) (C := RX11) (T := TX11) (N := 69) hx hb hts inlX11 hown hK hP 0 rfl rfl 11 (by decide) (hts _ q12_18) (fun _ h9 => h9) h_fs_corners dX11_ways_1 ?_
  refine lv_aload_n hx hb dX11_ways_4 rfl (lv_at hl 0 rfl) ?_
  refine va_get (D := g.1) (ci := 11) (v := Value.int 0) (C := RX11) (T := TX11) (N := 69) hx hb hts inlX11 hown hK hP 0 rfl rfl 34 (by decide) (hts _ q14_21) (fun _ h9 => h9) h_fs_bank dX11_ways_5 ?_
  refine ia_ld hx hb hK hP 1 1 rfl rfl (0) rfl (by decide) (by decide) dX11_ways_8 ?_
  refine lv_tope (y := 0) h_f_a1_0 ?_
  exact xi hx hb hr hlocks rfl hP hD hS ⟨rfl, rfl⟩ (Nat.le_of_ble_eq_true rfl) (Nat.le_of_ble_eq_true rfl) dX11_ways_9

set_option maxHeartbeats 4000000 in
set_option maxRecDepth 100000 in
theorem c_X11_isIn_none {l : Launch} {g : Gx} {p0 : Int32} : MI l g yX11_isIn cX11_isIn 3 (some .boolean) 2 0 0 [.int p0, .int 0, .int (-1)] [] (fun r W' => 0 = r ∧ W' = []) := by
  refine MIof (by decide) (Nat.le_of_ble_eq_true rfl) ?_
  intro p e s m below meth c A ls H locs hcx hA hP hD hS hl
  obtain ⟨hx, hb, hml, hr, hlocks, hown, hts, hE, hnm⟩ := id hcx
  have hown : s.vm.findClass RX11 = some m.cls := hown
  have hK := hE.1
  have hl : lv_has ls 3 [(0, .int p0), (1, .int 0), (2, .int (-1))] := hl
  refine lv_iload_n hx hb dX11_isIn_0 rfl (lv_at hl 0 rfl) ?_
  refine lv_iload_n hx hb dX11_isIn_1 rfl (lv_at hl 1 rfl) ?_
  refine lv_icmp_lt (tgt := 14) hx hb dX11_isIn_2 (by decide) (fun c1 => ?_) (fun c1 => ?_)
  · refine lv_iconst (v := 0) hx hb dX11_isIn_14 (by decide) ?_
    exact xi hx hb hr hlocks rfl hP hD hS ⟨rfl, rfl⟩ (Nat.le_of_ble_eq_true rfl) (Nat.le_of_ble_eq_true rfl) dX11_isIn_15
  · refine lv_iload_n hx hb dX11_isIn_5 rfl (lv_at hl 0 rfl) ?_
    refine lv_iload_n hx hb dX11_isIn_6 rfl (lv_at hl 2 rfl) ?_
    refine lv_icmp_gt (tgt := 14) hx hb dX11_isIn_7 (by decide) (fun _ => ?_) (fun c2 => absurd (i_m1 c1) c2)
    refine lv_iconst (v := 0) hx hb dX11_isIn_14 (by decide) ?_
    exact xi hx hb hr hlocks rfl hP hD hS ⟨rfl, rfl⟩ (Nat.le_of_ble_eq_true rfl) (Nat.le_of_ble_eq_true rfl) dX11_isIn_15

set_option maxHeartbeats 4000000 in
set_option maxRecDepth 100000 in
theorem c_X11_isIn {l : Launch} {g : Gx} {p0 : Int32} {p1 : Int32} {p2 : Int32} : MI l g yX11_isIn cX11_isIn 3 (some .boolean) 2 0 0 [.int p0, .int p1, .int p2] [] (fun r W' => (((p0 < p1 ∨ p2 < p0) ∧ r = 0) ∨ ((¬ p0 < p1 ∧ ¬ p2 < p0) ∧ r = 1)) ∧ W' = []) := by
  refine MIof (by decide) (Nat.le_of_ble_eq_true rfl) ?_
  intro p e s m below meth c A ls H locs hcx hA hP hD hS hl
  obtain ⟨hx, hb, hml, hr, hlocks, hown, hts, hE, hnm⟩ := id hcx
  have hown : s.vm.findClass RX11 = some m.cls := hown
  have hK := hE.1
  have hl : lv_has ls 3 [(0, .int p0), (1, .int p1), (2, .int p2)] := hl
  refine lv_iload_n hx hb dX11_isIn_0 rfl (lv_at hl 0 rfl) ?_
  refine lv_iload_n hx hb dX11_isIn_1 rfl (lv_at hl 1 rfl) ?_
  refine lv_icmp_lt (tgt := 14) hx hb dX11_isIn_2 (by decide) (fun c1 => ?_) (fun c1 => ?_)
  · refine lv_iconst (v := 0) hx hb dX11_isIn_14 (by decide) ?_
    exact xi hx hb hr hlocks rfl hP hD hS ⟨(Or.inl ⟨Or.inl c1, rfl⟩), rfl⟩ (Nat.le_of_ble_eq_true rfl) (Nat.le_of_ble_eq_true rfl) dX11_isIn_15
  · refine lv_iload_n hx hb dX11_isIn_5 rfl (lv_at hl 0 rfl) ?_
    refine lv_iload_n hx hb dX11_isIn_6 rfl (lv_at hl 2 rfl) ?_
    refine lv_icmp_gt (tgt := 14) hx hb dX11_isIn_7 (by decide) (fun c2 => ?_) (fun c2 => ?_)
    · refine lv_iconst (v := 0) hx hb dX11_isIn_14 (by decide) ?_
      exact xi hx hb hr hlocks rfl hP hD hS ⟨(Or.inl ⟨Or.inr c2, rfl⟩), rfl⟩ (Nat.le_of_ble_eq_true rfl) (Nat.le_of_ble_eq_true rfl) dX11_isIn_15
    · refine lv_iconst (v := 1) hx hb dX11_isIn_10 (by decide) ?_
      refine lv_goto (tgt := 15) hx hb dX11_isIn_11 (by decide) ?_
      exact xi hx hb hr hlocks rfl hP hD hS ⟨(Or.inr ⟨⟨c1, c2⟩, rfl⟩), rfl⟩ (Nat.le_of_ble_eq_true rfl) (Nat.le_of_ble_eq_true rfl) dX11_isIn_15

set_option maxHeartbeats 4000000 in
set_option maxRecDepth 100000 in
theorem c_X11_isGuild {l : Launch} {g : Gx} {h0 a0 : Nat} {p0 : Int32} {fs : List Value} {f_a0 : Nat → Int32} (hl_fs : fs.length = 69) (h_fs_guilds : fs[12]? = some (Value.ref a0)) (h_fs_bank : fs[34]? = some (Value.int 0)) (h_f_a0_0 : f_a0 0 = 0) : MI l g yX11_isGuild cX11_isGuild 2 (some .boolean) 3 0 0 [.ref h0, .int p0] [(h0, .inr (11, fs)), (a0, .inl (gI g, 2, .inl f_a0))] (fun r W' => 0 = r ∧ W' = [(h0, .inr (11, fs)), (a0, .inl (gI g, 2, .inl f_a0))]) := by
  refine MIof (by decide) (Nat.le_of_ble_eq_true rfl) ?_
  intro p e s m below meth c A ls H locs hcx hA hP hD hS hl
  obtain ⟨hx, hb, hml, hr, hlocks, hown, hts, hE, hnm⟩ := id hcx
  have hown : s.vm.findClass RX11 = some m.cls := hown
  have hK := hE.1
  have hl : lv_has ls 2 [(0, .ref h0), (1, .int p0)] := hl
  refine lv_iload_n hx hb dX11_isGuild_0 rfl (lv_at hl 1 rfl) ?_
  refine lv_iconst (v := 0) hx hb dX11_isGuild_1 (by decide) ?_
  refine lv_aload_n hx hb dX11_isGuild_2 rfl (lv_at hl 0 rfl) ?_
  refine kI (wc := [(h0, .inr (11, fs)), (a0, .inl (gI g, 2, .inl f_a0))]) (wr := []) (rV (As := []) (rest := [.int 0, .int p0]) (meth2 := "") hcx (c_X11_many (hl_fs) (h_fs_guilds) (h_fs_bank) (h_f_a0_0) H.size) (gdV q15_2 q15_3 q15_4 q1_5 q15_5) dvX11_many ⟨Nat.le_of_ble_eq_true rfl, Nat.le_of_ble_eq_true rfl⟩ (hP.sub [0, 1] rfl) (hD.sub [0, 1] (by decide) rfl) (va_recv hK hP (ci := 11) (q0 := 0) rfl rfl) rfl hl.1 rfl (Nat.le_of_ble_eq_true rfl) dX11_isGuild_3 ⟨Nat.le_of_ble_eq_true rfl, Nat.le_of_ble_eq_true rfl⟩) hP hD hS hA [0, 1] [] rfl rfl (by decide) (by decide) (fun r W' H locs hw hP hD hS => ?_)
  obtain ⟨rfl, rfl⟩ := hw
  have hP : va_P g.1 vwCl [(h0, .inr (11, fs)), (a0, .inl (gI g, 2, .inl f_a0))] H := hP
  have hD : va_D A [(h0, .inr (11, fs)), (a0, .inl (gI g, 2, .inl f_a0))] := hD
  refine lv_iconst (v := 1) hx hb dX11_isGuild_6 (by decide) ?_
  refine lv_isub hx hb dX11_isGuild_7 ?_
  refine lv_tope (y := (-1)) (by decide) ?_
  refine kI (wc := []) (wr := [(h0, .inr (11, fs)), (a0, .inl (gI g, 2, .inl f_a0))]) (rS (As := [.int p0, .int 0, .int (-1)]) (rest := []) hcx (c_X11_isIn_none H.size) (gdS q34_17 q34_18 q1_5 q34_19) dvX11_isIn.2 ⟨Nat.le_of_ble_eq_true rfl, Nat.le_of_ble_eq_true rfl⟩ (hP.sub [] rfl) (hD.sub [] (by decide) rfl) rfl hl.1 rfl (Nat.le_of_ble_eq_true rfl) dX11_isGuild_8 ⟨Nat.le_of_ble_eq_true rfl, Nat.le_of_ble_eq_true rfl⟩) hP hD hS hA [] [0, 1] rfl rfl (by decide) (by decide) (fun r W' H locs hw hP hD hS => ?_)
  obtain ⟨rfl, rfl⟩ := hw
  have hP : va_P g.1 vwCl [(h0, .inr (11, fs)), (a0, .inl (gI g, 2, .inl f_a0))] H := hP
  have hD : va_D A [(h0, .inr (11, fs)), (a0, .inl (gI g, 2, .inl f_a0))] := hD
  exact xi hx hb hr hlocks rfl hP hD hS ⟨rfl, rfl⟩ (Nat.le_of_ble_eq_true rfl) (Nat.le_of_ble_eq_true rfl) dX11_isGuild_11

set_option maxHeartbeats 4000000 in
set_option maxRecDepth 100000 in
theorem c_X11_full {l : Launch} {g : Gx} {h0 a0 : Nat} {fs : List Value} {f_a0 : Nat → Int32} (hl_fs : fs.length = 69) (h_fs_guilds : fs[12]? = some (Value.ref a0)) (h_fs_bank : fs[34]? = some (Value.int 0)) (h_f_a0_0 : f_a0 0 = 0) : MI l g yX11_full cX11_full 1 (some .int) 3 0 0 [.ref h0] [(h0, .inr (11, fs)), (a0, .inl (gI g, 2, .inl f_a0))] (fun r W' => 0 = r ∧ W' = [(h0, .inr (11, fs)), (a0, .inl (gI g, 2, .inl f_a0))]) := by
  refine MIof (by decide) (Nat.le_of_ble_eq_true rfl) ?_
  intro p e s m below meth c A ls H locs hcx hA hP hD hS hl
  obtain ⟨hx, hb, hml, hr, hlocks, hown, hts, hE, hnm⟩ := id hcx
  have hown : s.vm.findClass RX11 = some m.cls := hown
  have hK := hE.1
  have hl : lv_has ls 1 [(0, .ref h0)] := hl
  refine lv_iconst (v := 1) hx hb dX11_full_0 (by decide) ?_
  refine lv_aload_n hx hb dX11_full_1 rfl (lv_at hl 0 rfl) ?_
  refine kI (wc := [(h0, .inr (11, fs)), (a0, .inl (gI g, 2, .inl f_a0))]) (wr := []) (rV (As := []) (rest := [.int 1]) (meth2 := "") hcx (c_X11_many (hl_fs) (h_fs_guilds) (h_fs_bank) (h_f_a0_0) H.size) (gdV q15_2 q15_3 q15_4 q1_5 q15_5) dvX11_many ⟨Nat.le_of_ble_eq_true rfl, Nat.le_of_ble_eq_true rfl⟩ (hP.sub [0, 1] rfl) (hD.sub [0, 1] (by decide) rfl) (va_recv hK hP (ci := 11) (q0 := 0) rfl rfl) rfl hl.1 rfl (Nat.le_of_ble_eq_true rfl) dX11_full_2 ⟨Nat.le_of_ble_eq_true rfl, Nat.le_of_ble_eq_true rfl⟩) hP hD hS hA [0, 1] [] rfl rfl (by decide) (by decide) (fun r W' H locs hw hP hD hS => ?_)
  obtain ⟨rfl, rfl⟩ := hw
  have hP : va_P g.1 vwCl [(h0, .inr (11, fs)), (a0, .inl (gI g, 2, .inl f_a0))] H := hP
  have hD : va_D A [(h0, .inr (11, fs)), (a0, .inl (gI g, 2, .inl f_a0))] := hD
  refine lv_ishl hx hb dX11_full_5 ?_
  refine lv_tope (y := 1) (by decide) ?_
  refine lv_iconst (v := 1) hx hb dX11_full_6 (by decide) ?_
  refine lv_isub hx hb dX11_full_7 ?_
  refine lv_tope (y := 0) (by decide) ?_
  exact xi hx hb hr hlocks rfl hP hD hS ⟨rfl, rfl⟩ (Nat.le_of_ble_eq_true rfl) (Nat.le_of_ble_eq_true rfl) dX11_full_8
