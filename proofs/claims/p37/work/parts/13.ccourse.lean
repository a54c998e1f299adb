set_option maxHeartbeats 4000000 in
set_option maxRecDepth 100000 in
theorem c_J6_bitCount {l : Launch} {g : Gx} {p0 : Int32} : MI l g yJ6_bitCount_0f7a4 cJ6_bitCount_0f7a4 1 (some .int) 2 0 0 [.int p0] [] (fun r W' => True ∧ W' = []) := by
  refine MIof (by decide) (Nat.le_of_ble_eq_true rfl) ?_
  intro p e s m below meth c A ls H locs hcx hA hP hD hS hl
  obtain ⟨hx, hb, hml, hr, hlocks, hown, hts, hE, hnm⟩ := id hcx
  have hown : s.vm.findClass RJ6 = some m.cls := hown
  have hK := hE.1
  have hl : lv_has ls 1 [(0, .int p0)] := hl
  refine lv_iload_n hx hb dJ6_bitCount_0f7a4_0 rfl (lv_at hl 0 rfl) ?_
  refine lv_iload_n hx hb dJ6_bitCount_0f7a4_1 rfl (lv_at hl 0 rfl) ?_
  refine lv_iconst (v := 1) hx hb dJ6_bitCount_0f7a4_2 (by decide) ?_
  refine lv_iushr hx hb dJ6_bitCount_0f7a4_3 rfl ?_
  refine lv_topi (fun x1 ex1 => ?_)
  refine lv_ldcw hx hb hown (hts _ q52_22) dJ6_bitCount_0f7a4_4 ?_
  refine lv_iand hx hb dJ6_bitCount_0f7a4_7 ?_
  refine lv_topi (fun x2 ex2 => ?_)
  refine lv_isub hx hb dJ6_bitCount_0f7a4_8 ?_
  refine lv_topi (fun x3 ex3 => ?_)
  refine lv_istore_n (lv' := [(0, .int x3)]) hx hb dJ6_bitCount_0f7a4_9 rfl hl (by decide) rfl (fun ls hl => ?_)
  refine lv_iload_n hx hb dJ6_bitCount_0f7a4_10 rfl (lv_at hl 0 rfl) ?_
  refine lv_ldcw hx hb hown (hts _ q52_23) dJ6_bitCount_0f7a4_11 ?_
  refine lv_iand hx hb dJ6_bitCount_0f7a4_14 ?_
  refine lv_topi (fun x4 ex4 => ?_)
  refine lv_iload_n hx hb dJ6_bitCount_0f7a4_15 rfl (lv_at hl 0 rfl) ?_
  refine lv_iconst (v := 2) hx hb dJ6_bitCount_0f7a4_16 (by decide) ?_
  refine lv_iushr hx hb dJ6_bitCount_0f7a4_17 rfl ?_
  refine lv_topi (fun x5 ex5 => ?_)
  refine lv_ldcw hx hb hown (hts _ q52_23) dJ6_bitCount_0f7a4_18 ?_
  refine lv_iand hx hb dJ6_bitCount_0f7a4_21 ?_
  refine lv_topi (fun x6 ex6 => ?_)
  refine lv_iadd hx hb dJ6_bitCount_0f7a4_22 ?_
  refine lv_topi (fun x7 ex7 => ?_)
  refine lv_istore_n (lv' := [(0, .int x7)]) hx hb dJ6_bitCount_0f7a4_23 rfl hl (by decide) rfl (fun ls hl => ?_)
  refine lv_iload_n hx hb dJ6_bitCount_0f7a4_24 rfl (lv_at hl 0 rfl) ?_
  refine lv_iload_n hx hb dJ6_bitCount_0f7a4_25 rfl (lv_at hl 0 rfl) ?_
  refine lv_iconst (v := 4) hx hb dJ6_bitCount_0f7a4_26 (by decide) ?_
  refine lv_iushr hx hb dJ6_bitCount_0f7a4_27 rfl ?_
  refine lv_topi (fun x8 ex8 => ?_)
  refine lv_iadd hx hb dJ6_bitCount_0f7a4_28 ?_
  refine lv_topi (fun x9 ex9 => ?_)
  refine lv_ldcw hx hb hown (hts _ q53_0) dJ6_bitCount_0f7a4_29 ?_
  refine lv_iand hx hb dJ6_bitCount_0f7a4_32 ?_
  refine lv_topi (fun x10 ex10 => ?_)
  refine lv_istore_n (lv' := [(0, .int x10)]) hx hb dJ6_bitCount_0f7a4_33 rfl hl (by decide) rfl (fun ls hl => ?_)
  refine lv_iload_n hx hb dJ6_bitCount_0f7a4_34 rfl (lv_at hl 0 rfl) ?_
  refine lv_iload_n hx hb dJ6_bitCount_0f7a4_35 rfl (lv_at hl 0 rfl) ?_
  refine lv_bipush (v := 8) hx hb dJ6_bitCount_0f7a4_36 (by decide) ?_
  refine lv_iushr hx hb dJ6_bitCount_0f7a4_38 rfl ?_
  refine lv_topi (fun x11 ex11 => ?_)
  refine lv_iadd hx hb dJ6_bitCount_0f7a4_39 ?_
  refine lv_topi (fun x12 ex12 => ?_)
  refine lv_istore_n (lv' := [(0, .int x12)]) hx hb dJ6_bitCount_0f7a4_40 rfl hl (by decide) rfl (fun ls hl => ?_)
  refine lv_iload_n hx hb dJ6_bitCount_0f7a4_41 rfl (lv_at hl 0 rfl) ?_
  refine lv_iload_n hx hb dJ6_bitCount_0f7a4_42 rfl (lv_at hl 0 rfl) ?_
  refine lv_bipush (v := 16) hx hb dJ6_bitCount_0f7a4_43 (by decide) ?_
  refine lv_iushr hx hb dJ6_bitCount_0f7a4_45 rfl ?_
  refine lv_topi (fun x13 ex13 => ?_)
  refine lv_iadd hx hb dJ6_bitCount_0f7a4_46 ?_
  refine lv_topi (fun x14 ex14 => ?_)
  refine lv_istore_n (lv' := [(0, .int x14)]) hx hb dJ6_bitCount_0f7a4_47 rfl hl (by decide) rfl (fun ls hl => ?_)
  refine lv_iload_n hx hb dJ6_bitCount_0f7a4_48 rfl (lv_at hl 0 rfl) ?_
  refine lv_bipush (v := 63) hx hb dJ6_bitCount_0f7a4_49 (by decide) ?_
  refine lv_iand hx hb dJ6_bitCount_0f7a4_51 ?_
  refine lv_topi (fun x15 ex15 => ?_)
  exact xi hx hb hr hlocks rfl hP hD hS ⟨trivial, rfl⟩ (Nat.le_of_ble_eq_true rfl) (Nat.le_of_ble_eq_true rfl) dJ6_bitCount_0f7a4_52

set_option maxHeartbeats 4000000 in
set_option maxRecDepth 100000 in
theorem c_X0_clothOf {l : Launch} {g : Gx} {h0 h1 h1_re to to_cloths : Nat} {h0_values : Value} {h0_pull : Int32} {h0_hold : Int32} {h1_order : Value} {h1_children : Value} {h1_hosts : Value} {h1_guests : Value} {h1_up : Int32} {h1_standing : Nat} {h1_day : Int32} {h1_seed : Int32} {h1_firstTrue : Int32} {f_h1_re : Nat → Int32} {to_corners : Nat} {to_gustyCorners : Int32} {to_guilds : Nat} {to_draw : Int32} {to_drawTold : Int32} {to_cornerNames : Value} {to_winds : Value} {to_lees : Value} {to_gustChances : Value} {to_gusts : Value} {to_guildNames : Value} {to_trues : Value} {to_strengths : Value} {to_reefs : Value} {to_pull : Value} {to_hold : Value} {f_to_cloths : Nat → Int32} {p0 : Nat} (hb_h1_standing : h1_standing ≤ 8) (hb_to_corners : to_corners ≤ 8) (hb_to_guilds : to_guilds ≤ 5) (hb_p0 : p0 ≤ 4) : MI l g yX0_clothOf cX0_clothOf 4 (some .int) 2 0 0 [.ref h0, .ref h1, .int (nI p0)] [(h0, .inr (0, [.ref to, h0_values, .int h0_pull, .int h0_hold])), (h1, .inr (7, [h1_order, .ref h1_re, h1_children, h1_hosts, h1_guests, .int h1_up, .int (nI h1_standing), .int h1_day, .int h1_seed, .int h1_firstTrue])), (h1_re, .inl (gI g, 5, .inl f_h1_re)), (to, .inr (9, [.int (nI to_corners), .int to_gustyCorners, .int (nI to_guilds), .int to_draw, .int to_drawTold, to_cornerNames, to_winds, to_lees, to_gustChances, to_gusts, to_guildNames, .ref to_cloths, to_trues, to_strengths, to_reefs, to_pull, to_hold])), (to_cloths, .inl (gI g, 5, .inl f_to_cloths))] (fun r W' => True ∧ W' = [(h0, .inr (0, [.ref to, h0_values, .int h0_pull, .int h0_hold])), (h1, .inr (7, [h1_order, .ref h1_re, h1_children, h1_hosts, h1_guests, .int h1_up, .int (nI h1_standing), .int h1_day, .int h1_seed, .int h1_firstTrue])), (h1_re, .inl (gI g, 5, .inl f_h1_re)), (to, .inr (9, [.int (nI to_corners), .int to_gustyCorners, .int (nI to_guilds), .int to_draw, .int to_drawTold, to_cornerNames, to_winds, to_lees, to_gustChances, to_gusts, to_guildNames, .ref to_cloths, to_trues, to_strengths, to_reefs, to_pull, to_hold])), (to_cloths, .inl (gI g, 5, .inl f_to_cloths))]) := by
  refine MIof (by decide) (Nat.le_of_ble_eq_true rfl) ?_
  intro p e s m below meth c A ls H locs hcx hA hP hD hS hl
  obtain ⟨hx, hb, hml, hr, hlocks, hown, hts, hE, hnm⟩ := id hcx
  have hown : s.vm.findClass RX0 = some m.cls := hown
  have hK := hE.1
  have hl : lv_has ls 4 [(0, .ref h0), (1, .ref h1), (2, .int (nI p0))] := hl
  refine lv_aload_n hx hb dX0_clothOf_0 rfl (lv_at hl 0 rfl) ?_
  refine va_get (D := g.1) (ci := 0) (v := Value.ref to) (C := RX0) (T := TX0) (N := 4) hx hb hts inlX0 hown hK hP 0 rfl rfl 0 (by decide) (hts _ q7_4) (fun _ h9 => h9) rfl dX0_clothOf_1 ?_
  refine va_get (D := g.1) (ci := 9) (v := Value.ref to_cloths) (C := RX9) (T := TX9) (N := 17) hx hb hts inlX9 hown hK hP 3 rfl rfl 11 (by decide) (hts _ q33_13) (fun _ h9 => h9) rfl dX0_clothOf_4 ?_
  refine lv_iload_n hx hb dX0_clothOf_7 rfl (lv_at hl 2 rfl) ?_
  refine ia_ld hx hb hK hP 4 1 rfl rfl (p0) rfl (by omega) (by decide) dX0_clothOf_8 ?_
  refine lv_topi (fun x1 ex1 => ?_)
  refine lv_aload_n hx hb dX0_clothOf_9 rfl (lv_at hl 1 rfl) ?_
  refine va_get (D := g.1) (ci := 7) (v := Value.ref h1_re) (C := RX7) (T := TX7) (N := 10) hx hb hts inlX7 hown hK hP 1 rfl rfl 1 (by decide) (hts _ q33_14) (fun _ h9 => h9) rfl dX0_clothOf_10 ?_
  refine lv_iload_n hx hb dX0_clothOf_13 rfl (lv_at hl 2 rfl) ?_
  refine ia_ld hx hb hK hP 2 1 rfl rfl (p0) rfl (by omega) (by decide) dX0_clothOf_14 ?_
  refine lv_topi (fun x2 ex2 => ?_)
  refine lv_isub hx hb dX0_clothOf_15 ?_
  refine lv_topi (fun x3 ex3 => ?_)
  refine lv_istore_n (lv' := [(3, .int x3), (0, .ref h0), (1, .ref h1), (2, .int (nI p0))]) hx hb dX0_clothOf_16 rfl hl (by decide) rfl (fun ls hl => ?_)
  refine lv_iload_n hx hb dX0_clothOf_17 rfl (lv_at hl 0 rfl) ?_
  refine lv_if_ge (tgt := 25) hx hb dX0_clothOf_18 (by decide) (fun c4 => ?_) (fun c4 => ?_)
  · refine lv_iload_n hx hb dX0_clothOf_25 rfl (lv_at hl 0 rfl) ?_
    exact xi hx hb hr hlocks rfl hP hD hS ⟨trivial, rfl⟩ (Nat.le_of_ble_eq_true rfl) (Nat.le_of_ble_eq_true rfl) dX0_clothOf_26
  · refine lv_iconst (v := 0) hx hb dX0_clothOf_21 (by decide) ?_
    refine lv_goto (tgt := 26) hx hb dX0_clothOf_22 (by decide) ?_
    exact xi hx hb hr hlocks rfl hP hD hS ⟨trivial, rfl⟩ (Nat.le_of_ble_eq_true rfl) (Nat.le_of_ble_eq_true rfl) dX0_clothOf_26

set_option maxHeartbeats 4000000 in
set_option maxRecDepth 100000 in
theorem c_X0_mightOf {l : Launch} {g : Gx} {h0 h1 h1_ch h1_gu to to_strengths : Nat} {h0_values : Value} {h0_pull : Int32} {h0_hold : Int32} {h1_order : Value} {h1_reefs : Value} {h1_hosts : Value} {h1_up : Int32} {h1_standing : Nat} {h1_day : Int32} {h1_seed : Int32} {h1_firstTrue : Int32} {f_h1_ch : Nat → Int32} {f_h1_gu : Nat → Int32} {to_corners : Nat} {to_gustyCorners : Int32} {to_guilds : Nat} {to_draw : Int32} {to_drawTold : Int32} {to_cornerNames : Value} {to_winds : Value} {to_lees : Value} {to_gustChances : Value} {to_gusts : Value} {to_guildNames : Value} {to_cloths : Value} {to_trues : Value} {to_reefs : Value} {to_pull : Value} {to_hold : Value} {f_to_strengths : Nat → Int32} {p0 : Nat} (hb_h1_standing : h1_standing ≤ 8) (ht_h1_gu : TM 5 4 f_h1_gu) (hb_to_corners : to_corners ≤ 8) (hb_to_guilds : to_guilds ≤ 5) (hb_p0 : p0 ≤ 4) : MI l g yX0_mightOf cX0_mightOf 5 (some .int) 2 0 0 [.ref h0, .ref h1, .int (nI p0)] [(h0, .inr (0, [.ref to, h0_values, .int h0_pull, .int h0_hold])), (h1, .inr (7, [h1_order, h1_reefs, .ref h1_ch, h1_hosts, .ref h1_gu, .int h1_up, .int (nI h1_standing), .int h1_day, .int h1_seed, .int h1_firstTrue])), (h1_ch, .inl (gI g, 5, .inl f_h1_ch)), (h1_gu, .inl (gI g, 5, .inl f_h1_gu)), (to, .inr (9, [.int (nI to_corners), .int to_gustyCorners, .int (nI to_guilds), .int to_draw, .int to_drawTold, to_cornerNames, to_winds, to_lees, to_gustChances, to_gusts, to_guildNames, to_cloths, to_trues, .ref to_strengths, to_reefs, to_pull, to_hold])), (to_strengths, .inl (gI g, 5, .inl f_to_strengths))] (fun r W' => True ∧ W' = [(h0, .inr (0, [.ref to, h0_values, .int h0_pull, .int h0_hold])), (h1, .inr (7, [h1_order, h1_reefs, .ref h1_ch, h1_hosts, .ref h1_gu, .int h1_up, .int (nI h1_standing), .int h1_day, .int h1_seed, .int h1_firstTrue])), (h1_ch, .inl (gI g, 5, .inl f_h1_ch)), (h1_gu, .inl (gI g, 5, .inl f_h1_gu)), (to, .inr (9, [.int (nI to_corners), .int to_gustyCorners, .int (nI to_guilds), .int to_draw, .int to_drawTold, to_cornerNames, to_winds, to_lees, to_gustChances, to_gusts, to_guildNames, to_cloths, to_trues, .ref to_strengths, to_reefs, to_pull, to_hold])), (to_strengths, .inl (gI g, 5, .inl f_to_strengths))]) := by
  refine MIof (by decide) (Nat.le_of_ble_eq_true rfl) ?_
  intro p e s m below meth c A ls H locs hcx hA hP hD hS hl
  obtain ⟨hx, hb, hml, hr, hlocks, hown, hts, hE, hnm⟩ := id hcx
  have hown : s.vm.findClass RX0 = some m.cls := hown
  have hK := hE.1
  have hl : lv_has ls 5 [(0, .ref h0), (1, .ref h1), (2, .int (nI p0))] := hl
  refine lv_aload_n hx hb dX0_mightOf_0 rfl (lv_at hl 0 rfl) ?_
  refine va_get (D := g.1) (ci := 0) (v := Value.ref to) (C := RX0) (T := TX0) (N := 4) hx hb hts inlX0 hown hK hP 0 rfl rfl 0 (by decide) (hts _ q7_4) (fun _ h9 => h9) rfl dX0_mightOf_1 ?_
  refine va_get (D := g.1) (ci := 9) (v := Value.ref to_strengths) (C := RX9) (T := TX9) (N := 17) hx hb hts inlX9 hown hK hP 4 rfl rfl 13 (by decide) (hts _ q33_19) (fun _ h9 => h9) rfl dX0_mightOf_4 ?_
  refine lv_iload_n hx hb dX0_mightOf_7 rfl (lv_at hl 2 rfl) ?_
  refine ia_ld hx hb hK hP 5 1 rfl rfl (p0) rfl (by omega) (by decide) dX0_mightOf_8 ?_
  refine lv_topi (fun x1 ex1 => ?_)
  refine lv_aload_n hx hb dX0_mightOf_9 rfl (lv_at hl 1 rfl) ?_
  refine va_get (D := g.1) (ci := 7) (v := Value.ref h1_ch) (C := RX7) (T := TX7) (N := 10) hx hb hts inlX7 hown hK hP 1 rfl rfl 2 (by decide) (hts _ q33_20) (fun _ h9 => h9) rfl dX0_mightOf_10 ?_
  refine lv_iload_n hx hb dX0_mightOf_13 rfl (lv_at hl 2 rfl) ?_
  refine ia_ld hx hb hK hP 2 1 rfl rfl (p0) rfl (by omega) (by decide) dX0_mightOf_14 ?_
  refine lv_topi (fun x2 ex2 => ?_)
  refine lv_iadd hx hb dX0_mightOf_15 ?_
  refine lv_topi (fun x3 ex3 => ?_)
  refine lv_istore_n (lv' := [(3, .int x3), (0, .ref h0), (1, .ref h1), (2, .int (nI p0))]) hx hb dX0_mightOf_16 rfl hl (by decide) rfl (fun ls hl => ?_)
  refine lv_aload_n hx hb dX0_mightOf_17 rfl (lv_at hl 2 rfl) ?_
  refine va_get (D := g.1) (ci := 7) (v := Value.ref h1_gu) (C := RX7) (T := TX7) (N := 10) hx hb hts inlX7 hown hK hP 1 rfl rfl 4 (by decide) (hts _ q33_21) (fun _ h9 => h9) rfl dX0_mightOf_18 ?_
  refine lv_iload_n hx hb dX0_mightOf_21 rfl (lv_at hl 3 rfl) ?_
  refine ia_ld hx hb hK hP 3 1 rfl rfl (p0) rfl (by omega) (by decide) dX0_mightOf_22 ?_
  obtain ⟨x5, ex5⟩ : ∃ y : Int32, y = f_h1_gu (p0) := ⟨_, rfl⟩
  have hx5 : XM 4 x5 := by rw [ex5]; exact ht_h1_gu (p0) (by omega)
  refine lv_tope ex5.symm ?_
  refine lv_istore (lv' := [(4, .int x5), (3, .int x3), (0, .ref h0), (1, .ref h1), (2, .int (nI p0))]) hx hb dX0_mightOf_23 hl (by decide) rfl (fun ls hl => ?_)
  refine lv_iload hx hb dX0_mightOf_25 (lv_at hl 0 rfl) ?_
  refine lv_iconst (v := (-1)) hx hb dX0_mightOf_27 (by decide) ?_
  refine lv_icmp_ne (tgt := 35) hx hb dX0_mightOf_28 (by decide) (fun c6 => ?_) (fun c6 => ?_)
  · obtain ⟨m7, hm7, em7⟩ := hx5.resolve_left c6
    subst em7
    refine lv_iload_n hx hb dX0_mightOf_35 rfl (lv_at hl 1 rfl) ?_
    refine lv_aload_n hx hb dX0_mightOf_36 rfl (lv_at hl 2 rfl) ?_
    refine va_get (D := g.1) (ci := 0) (v := Value.ref to) (C := RX0) (T := TX0) (N := 4) hx hb hts inlX0 hown hK hP 0 rfl rfl 0 (by decide) (hts _ q7_4) (fun _ h9 => h9) rfl dX0_mightOf_37 ?_
    refine va_get (D := g.1) (ci := 9) (v := Value.ref to_strengths) (C := RX9) (T := TX9) (N := 17) hx hb hts inlX9 hown hK hP 4 rfl rfl 13 (by decide) (hts _ q33_19) (fun _ h9 => h9) rfl dX0_mightOf_40 ?_
    refine lv_iload hx hb dX0_mightOf_43 (lv_at hl 0 rfl) ?_
    refine ia_ld hx hb hK hP 5 1 rfl rfl (m7) rfl (by omega) (by decide) dX0_mightOf_45 ?_
    refine lv_topi (fun x8 ex8 => ?_)
    refine lv_iadd hx hb dX0_mightOf_46 ?_
    refine lv_topi (fun x9 ex9 => ?_)
    refine lv_aload_n hx hb dX0_mightOf_47 rfl (lv_at hl 3 rfl) ?_
    refine va_get (D := g.1) (ci := 7) (v := Value.ref h1_ch) (C := RX7) (T := TX7) (N := 10) hx hb hts inlX7 hown hK hP 1 rfl rfl 2 (by decide) (hts _ q33_20) (fun _ h9 => h9) rfl dX0_mightOf_48 ?_
    refine lv_iload hx hb dX0_mightOf_51 (lv_at hl 0 rfl) ?_
    refine ia_ld hx hb hK hP 2 1 rfl rfl (m7) rfl (by omega) (by decide) dX0_mightOf_53 ?_
    refine lv_topi (fun x10 ex10 => ?_)
    refine lv_iadd hx hb dX0_mightOf_54 ?_
    refine lv_topi (fun x11 ex11 => ?_)
    exact xi hx hb hr hlocks rfl hP hD hS ⟨trivial, rfl⟩ (Nat.le_of_ble_eq_true rfl) (Nat.le_of_ble_eq_true rfl) dX0_mightOf_55
  · refine lv_iload_n hx hb dX0_mightOf_31 rfl (lv_at hl 1 rfl) ?_
    refine lv_goto (tgt := 55) hx hb dX0_mightOf_32 (by decide) ?_
    exact xi hx hb hr hlocks rfl hP hD hS ⟨trivial, rfl⟩ (Nat.le_of_ble_eq_true rfl) (Nat.le_of_ble_eq_true rfl) dX0_mightOf_55

set_option maxHeartbeats 4000000 in
set_option maxRecDepth 100000 in
theorem c_X0_trueOf {l : Launch} {g : Gx} {h0 h1 to to_trues : Nat} {h0_values : Value} {h0_pull : Int32} {h0_hold : Int32} {h1_order : Value} {h1_reefs : Value} {h1_children : Value} {h1_hosts : Value} {h1_guests : Value} {h1_up : Int32} {h1_standing : Nat} {h1_day : Int32} {h1_seed : Int32} {h1_firstTrue : Int32} {to_corners : Nat} {to_gustyCorners : Int32} {to_guilds : Nat} {to_draw : Int32} {to_drawTold : Int32} {to_cornerNames : Value} {to_winds : Value} {to_lees : Value} {to_gustChances : Value} {to_gusts : Value} {to_guildNames : Value} {to_cloths : Value} {to_strengths : Value} {to_reefs : Value} {to_pull : Value} {to_hold : Value} {f_to_trues : Nat → Int32} {p0 : Nat} (hb_h1_standing : h1_standing ≤ 8) (hb_to_corners : to_corners ≤ 8) (hb_to_guilds : to_guilds ≤ 5) (hb_p0 : p0 ≤ 4) : MI l g yX0_trueOf cX0_trueOf 3 (some .int) 2 0 0 [.ref h0, .ref h1, .int (nI p0)] [(h0, .inr (0, [.ref to, h0_values, .int h0_pull, .int h0_hold])), (h1, .inr (7, [h1_order, h1_reefs, h1_children, h1_hosts, h1_guests, .int h1_up, .int (nI h1_standing), .int h1_day, .int h1_seed, .int h1_firstTrue])), (to, .inr (9, [.int (nI to_corners), .int to_gustyCorners, .int (nI to_guilds), .int to_draw, .int to_drawTold, to_cornerNames, to_winds, to_lees, to_gustChances, to_gusts, to_guildNames, to_cloths, .ref to_trues, to_strengths, to_reefs, to_pull, to_hold])), (to_trues, .inl (gI g, 5, .inl f_to_trues))] (fun r W' => True ∧ W' = [(h0, .inr (0, [.ref to, h0_values, .int h0_pull, .int h0_hold])), (h1, .inr (7, [h1_order, h1_reefs, h1_children, h1_hosts, h1_guests, .int h1_up, .int (nI h1_standing), .int h1_day, .int h1_seed, .int h1_firstTrue])), (to, .inr (9, [.int (nI to_corners), .int to_gustyCorners, .int (nI to_guilds), .int to_draw, .int to_drawTold, to_cornerNames, to_winds, to_lees, to_gustChances, to_gusts, to_guildNames, to_cloths, .ref to_trues, to_strengths, to_reefs, to_pull, to_hold])), (to_trues, .inl (gI g, 5, .inl f_to_trues))]) := by
  refine MIof (by decide) (Nat.le_of_ble_eq_true rfl) ?_
  intro p e s m below meth c A ls H locs hcx hA hP hD hS hl
  obtain ⟨hx, hb, hml, hr, hlocks, hown, hts, hE, hnm⟩ := id hcx
  have hown : s.vm.findClass RX0 = some m.cls := hown
  have hK := hE.1
  have hl : lv_has ls 3 [(0, .ref h0), (1, .ref h1), (2, .int (nI p0))] := hl
  refine lv_iload_n hx hb dX0_trueOf_0 rfl (lv_at hl 2 rfl) ?_
  refine lv_if_ne (tgt := 11) hx hb dX0_trueOf_1 (by decide) (fun c1 => ?_) (fun c1 => ?_)
  · have hn2 := nneq (a := p0) (b := 0) (by omega) (by omega) c1
    refine lv_aload_n hx hb dX0_trueOf_11 rfl (lv_at hl 0 rfl) ?_
    refine va_get (D := g.1) (ci := 0) (v := Value.ref to) (C := RX0) (T := TX0) (N := 4) hx hb hts inlX0 hown hK hP 0 rfl rfl 0 (by decide) (hts _ q7_4) (fun _ h9 => h9) rfl dX0_trueOf_12 ?_
    refine va_get (D := g.1) (ci := 9) (v := Value.ref to_trues) (C := RX9) (T := TX9) (N := 17) hx hb hts inlX9 hown hK hP 2 rfl rfl 12 (by decide) (hts _ q34_8) (fun _ h9 => h9) rfl dX0_trueOf_15 ?_
    refine lv_iload_n hx hb dX0_trueOf_18 rfl (lv_at hl 2 rfl) ?_
    refine ia_ld hx hb hK hP 3 1 rfl rfl (p0) rfl (by omega) (by decide) dX0_trueOf_19 ?_
    refine lv_topi (fun x3 ex3 => ?_)
    exact xi hx hb hr hlocks rfl hP hD hS ⟨trivial, rfl⟩ (Nat.le_of_ble_eq_true rfl) (Nat.le_of_ble_eq_true rfl) dX0_trueOf_20
  · have hn4 := neq (a := p0) (b := 0) (by omega) (by omega) c1
    refine lv_aload_n hx hb dX0_trueOf_4 rfl (lv_at hl 1 rfl) ?_
    refine va_get (D := g.1) (ci := 7) (v := Value.int h1_firstTrue) (C := RX7) (T := TX7) (N := 10) hx hb hts inlX7 hown hK hP 1 rfl rfl 9 (by decide) (hts _ q34_7) (fun _ h9 => h9) rfl dX0_trueOf_5 ?_
    refine lv_goto (tgt := 20) hx hb dX0_trueOf_8 (by decide) ?_
    exact xi hx hb hr hlocks rfl hP hD hS ⟨trivial, rfl⟩ (Nat.le_of_ble_eq_true rfl) (Nat.le_of_ble_eq_true rfl) dX0_trueOf_20

set_option maxHeartbeats 4000000 in
set_option maxRecDepth 100000 in
theorem c_X0_truthOf {l : Launch} {g : Gx} {h0 h1 h1_gu to to_trues : Nat} {h0_values : Value} {h0_pull : Int32} {h0_hold : Int32} {h1_order : Value} {h1_reefs : Value} {h1_children : Value} {h1_hosts : Value} {h1_up : Int32} {h1_standing : Nat} {h1_day : Int32} {h1_seed : Int32} {h1_firstTrue : Int32} {f_h1_gu : Nat → Int32} {to_corners : Nat} {to_gustyCorners : Int32} {to_guilds : Nat} {to_draw : Int32} {to_drawTold : Int32} {to_cornerNames : Value} {to_winds : Value} {to_lees : Value} {to_gustChances : Value} {to_gusts : Value} {to_guildNames : Value} {to_cloths : Value} {to_strengths : Value} {to_reefs : Value} {to_pull : Value} {to_hold : Value} {f_to_trues : Nat → Int32} {p0 : Nat} (hb_h1_standing : h1_standing ≤ 8) (ht_h1_gu : TM 5 4 f_h1_gu) (hb_to_corners : to_corners ≤ 8) (hb_to_guilds : to_guilds ≤ 5) (hb_p0 : p0 ≤ 4) : MI l g yX0_truthOf cX0_truthOf 5 (some .int) 3 0 0 [.ref h0, .ref h1, .int (nI p0)] [(h0, .inr (0, [.ref to, h0_values, .int h0_pull, .int h0_hold])), (h1, .inr (7, [h1_order, h1_reefs, h1_children, h1_hosts, .ref h1_gu, .int h1_up, .int (nI h1_standing), .int h1_day, .int h1_seed, .int h1_firstTrue])), (h1_gu, .inl (gI g, 5, .inl f_h1_gu)), (to, .inr (9, [.int (nI to_corners), .int to_gustyCorners, .int (nI to_guilds), .int to_draw, .int to_drawTold, to_cornerNames, to_winds, to_lees, to_gustChances, to_gusts, to_guildNames, to_cloths, .ref to_trues, to_strengths, to_reefs, to_pull, to_hold])), (to_trues, .inl (gI g, 5, .inl f_to_trues))] (fun r W' => True ∧ W' = [(h0, .inr (0, [.ref to, h0_values, .int h0_pull, .int h0_hold])), (h1, .inr (7, [h1_order, h1_reefs, h1_children, h1_hosts, .ref h1_gu, .int h1_up, .int (nI h1_standing), .int h1_day, .int h1_seed, .int h1_firstTrue])), (h1_gu, .inl (gI g, 5, .inl f_h1_gu)), (to, .inr (9, [.int (nI to_corners), .int to_gustyCorners, .int (nI to_guilds), .int to_draw, .int to_drawTold, to_cornerNames, to_winds, to_lees, to_gustChances, to_gusts, to_guildNames, to_cloths, .ref to_trues, to_strengths, to_reefs, to_pull, to_hold])), (to_trues, .inl (gI g, 5, .inl f_to_trues))]) := by
  refine MIof (by decide) (Nat.le_of_ble_eq_true rfl) ?_
  intro p e s m below meth c A ls H locs hcx hA hP hD hS hl
  obtain ⟨hx, hb, hml, hr, hlocks, hown, hts, hE, hnm⟩ := id hcx
  have hown : s.vm.findClass RX0 = some m.cls := hown
  have hK := hE.1
  have hl : lv_has ls 5 [(0, .ref h0), (1, .ref h1), (2, .int (nI p0))] := hl
  refine lv_aload_n hx hb dX0_truthOf_0 rfl (lv_at hl 1 rfl) ?_
  refine va_get (D := g.1) (ci := 7) (v := Value.ref h1_gu) (C := RX7) (T := TX7) (N := 10) hx hb hts inlX7 hown hK hP 1 rfl rfl 4 (by decide) (hts _ q33_21) (fun _ h9 => h9) rfl dX0_truthOf_1 ?_
  refine lv_iload_n hx hb dX0_truthOf_4 rfl (lv_at hl 2 rfl) ?_
  refine ia_ld hx hb hK hP 2 1 rfl rfl (p0) rfl (by omega) (by decide) dX0_truthOf_5 ?_
  obtain ⟨x2, ex2⟩ : ∃ y : Int32, y = f_h1_gu (p0) := ⟨_, rfl⟩
  have hx2 : XM 4 x2 := by rw [ex2]; exact ht_h1_gu (p0) (by omega)
  refine lv_tope ex2.symm ?_
  refine lv_istore_n (lv' := [(3, .int x2), (0, .ref h0), (1, .ref h1), (2, .int (nI p0))]) hx hb dX0_truthOf_6 rfl hl (by decide) rfl (fun ls hl => ?_)
  refine lv_aload_n hx hb dX0_truthOf_7 rfl (lv_at hl 1 rfl) ?_
  refine lv_aload_n hx hb dX0_truthOf_8 rfl (lv_at hl 2 rfl) ?_
  refine lv_iload_n hx hb dX0_truthOf_9 rfl (lv_at hl 3 rfl) ?_
  refine kI (wc := [(h0, .inr (0, [.ref to, h0_values, .int h0_pull, .int h0_hold])), (h1, .inr (7, [h1_order, h1_reefs, h1_children, h1_hosts, .ref h1_gu, .int h1_up, .int (nI h1_standing), .int h1_day, .int h1_seed, .int h1_firstTrue])), (to, .inr (9, [.int (nI to_corners), .int to_gustyCorners, .int (nI to_guilds), .int to_draw, .int to_drawTold, to_cornerNames, to_winds, to_lees, to_gustChances, to_gusts, to_guildNames, to_cloths, .ref to_trues, to_strengths, to_reefs, to_pull, to_hold])), (to_trues, .inl (gI g, 5, .inl f_to_trues))]) (wr := [(h1_gu, .inl (gI g, 5, .inl f_h1_gu))]) (rV (As := [.ref h1, .int (nI p0)]) (rest := []) (meth2 := "") hcx (c_X0_trueOf (by omega) (by omega) (by omega) (by omega) H.size) (gdV q34_3 q34_4 q34_5 q2_1 q34_6) dvX0_trueOf ⟨Nat.le_of_ble_eq_true rfl, Nat.le_of_ble_eq_true rfl⟩ (hP.sub [0, 1, 3, 4] rfl) (hD.sub [0, 1, 3, 4] (by decide) rfl) (va_recv hK hP (ci := 0) (q0 := 0) rfl rfl) rfl hl.1 rfl (Nat.le_of_ble_eq_true rfl) dX0_truthOf_10 ⟨Nat.le_of_ble_eq_true rfl, Nat.le_of_ble_eq_true rfl⟩) hP hD hS hA [0, 1, 3, 4] [2] rfl rfl (by decide) (by decide) (fun r3 W' H locs hw hP hD hS => ?_)
  obtain ⟨hr4, rfl⟩ := hw
  have hP : va_P g.1 vwCl [(h1_gu, .inl (gI g, 5, .inl f_h1_gu)), (h0, .inr (0, [.ref to, h0_values, .int h0_pull, .int h0_hold])), (h1, .inr (7, [h1_order, h1_reefs, h1_children, h1_hosts, .ref h1_gu, .int h1_up, .int (nI h1_standing), .int h1_day, .int h1_seed, .int h1_firstTrue])), (to, .inr (9, [.int (nI to_corners), .int to_gustyCorners, .int (nI to_guilds), .int to_draw, .int to_drawTold, to_cornerNames, to_winds, to_lees, to_gustChances, to_gusts, to_guildNames, to_cloths, .ref to_trues, to_strengths, to_reefs, to_pull, to_hold])), (to_trues, .inl (gI g, 5, .inl f_to_trues))] H := hP
  have hD : va_D A [(h1_gu, .inl (gI g, 5, .inl f_h1_gu)), (h0, .inr (0, [.ref to, h0_values, .int h0_pull, .int h0_hold])), (h1, .inr (7, [h1_order, h1_reefs, h1_children, h1_hosts, .ref h1_gu, .int h1_up, .int (nI h1_standing), .int h1_day, .int h1_seed, .int h1_firstTrue])), (to, .inr (9, [.int (nI to_corners), .int to_gustyCorners, .int (nI to_guilds), .int to_draw, .int to_drawTold, to_cornerNames, to_winds, to_lees, to_gustChances, to_gusts, to_guildNames, to_cloths, .ref to_trues, to_strengths, to_reefs, to_pull, to_hold])), (to_trues, .inl (gI g, 5, .inl f_to_trues))] := hD
  refine lv_istore (lv' := [(4, .int r3), (3, .int x2), (0, .ref h0), (1, .ref h1), (2, .int (nI p0))]) hx hb dX0_truthOf_13 hl (by decide) rfl (fun ls hl => ?_)
  refine lv_iload_n hx hb dX0_truthOf_15 rfl (lv_at hl 1 rfl) ?_
  refine lv_iconst (v := (-1)) hx hb dX0_truthOf_16 (by decide) ?_
  refine lv_icmp_ne (tgt := 25) hx hb dX0_truthOf_17 (by decide) (fun c5 => ?_) (fun c5 => ?_)
  · obtain ⟨m6, hm6, em6⟩ := hx2.resolve_left c5
    subst em6
    refine lv_iload hx hb dX0_truthOf_25 (lv_at hl 0 rfl) ?_
    refine lv_aload_n hx hb dX0_truthOf_27 rfl (lv_at hl 2 rfl) ?_
    refine lv_aload_n hx hb dX0_truthOf_28 rfl (lv_at hl 3 rfl) ?_
    refine lv_iload_n hx hb dX0_truthOf_29 rfl (lv_at hl 1 rfl) ?_
    refine kI (wc := [(h0, .inr (0, [.ref to, h0_values, .int h0_pull, .int h0_hold])), (h1, .inr (7, [h1_order, h1_reefs, h1_children, h1_hosts, .ref h1_gu, .int h1_up, .int (nI h1_standing), .int h1_day, .int h1_seed, .int h1_firstTrue])), (to, .inr (9, [.int (nI to_corners), .int to_gustyCorners, .int (nI to_guilds), .int to_draw, .int to_drawTold, to_cornerNames, to_winds, to_lees, to_gustChances, to_gusts, to_guildNames, to_cloths, .ref to_trues, to_strengths, to_reefs, to_pull, to_hold])), (to_trues, .inl (gI g, 5, .inl f_to_trues))]) (wr := [(h1_gu, .inl (gI g, 5, .inl f_h1_gu))]) (rV (As := [.ref h1, .int (nI m6)]) (rest := [.int r3]) (meth2 := "") hcx (c_X0_trueOf (by omega) (by omega) (by omega) (by omega) H.size) (gdV q34_3 q34_4 q34_5 q2_1 q34_6) dvX0_trueOf ⟨Nat.le_of_ble_eq_true rfl, Nat.le_of_ble_eq_true rfl⟩ (hP.sub [1, 2, 3, 4] rfl) (hD.sub [1, 2, 3, 4] (by decide) rfl) (va_recv hK hP (ci := 0) (q0 := 1) rfl rfl) rfl hl.1 rfl (Nat.le_of_ble_eq_true rfl) dX0_truthOf_30 ⟨Nat.le_of_ble_eq_true rfl, Nat.le_of_ble_eq_true rfl⟩) hP hD hS hA [1, 2, 3, 4] [0] rfl rfl (by decide) (by decide) (fun r7 W' H locs hw hP hD hS => ?_)
    obtain ⟨hr8, rfl⟩ := hw
    have hP : va_P g.1 vwCl [(h1_gu, .inl (gI g, 5, .inl f_h1_gu)), (h0, .inr (0, [.ref to, h0_values, .int h0_pull, .int h0_hold])), (h1, .inr (7, [h1_order, h1_reefs, h1_children, h1_hosts, .ref h1_gu, .int h1_up, .int (nI h1_standing), .int h1_day, .int h1_seed, .int h1_firstTrue])), (to, .inr (9, [.int (nI to_corners), .int to_gustyCorners, .int (nI to_guilds), .int to_draw, .int to_drawTold, to_cornerNames, to_winds, to_lees, to_gustChances, to_gusts, to_guildNames, to_cloths, .ref to_trues, to_strengths, to_reefs, to_pull, to_hold])), (to_trues, .inl (gI g, 5, .inl f_to_trues))] H := hP
    have hD : va_D A [(h1_gu, .inl (gI g, 5, .inl f_h1_gu)), (h0, .inr (0, [.ref to, h0_values, .int h0_pull, .int h0_hold])), (h1, .inr (7, [h1_order, h1_reefs, h1_children, h1_hosts, .ref h1_gu, .int h1_up, .int (nI h1_standing), .int h1_day, .int h1_seed, .int h1_firstTrue])), (to, .inr (9, [.int (nI to_corners), .int to_gustyCorners, .int (nI to_guilds), .int to_draw, .int to_drawTold, to_cornerNames, to_winds, to_lees, to_gustChances, to_gusts, to_guildNames, to_cloths, .ref to_trues, to_strengths, to_reefs, to_pull, to_hold])), (to_trues, .inl (gI g, 5, .inl f_to_trues))] := hD
    refine va_mmin hx hb (hml.trans hl.1.symm) hown (hts _ q34_2) (hts _ q17_5) (hts _ q17_6) (hts _ q17_7) (Nat.le_of_ble_eq_true rfl) (Nat.le_of_ble_eq_true rfl) (Nat.le_of_ble_eq_true rfl) (Nat.le_of_ble_eq_true rfl) dX0_truthOf_33 ?_
    refine lv_topi (fun x9 ex9 => ?_)
    have hP9 : va_P g.1 vwCl [(h0, .inr (0, [.ref to, h0_values, .int h0_pull, .int h0_hold])), (h1, .inr (7, [h1_order, h1_reefs, h1_children, h1_hosts, .ref h1_gu, .int h1_up, .int (nI h1_standing), .int h1_day, .int h1_seed, .int h1_firstTrue])), (h1_gu, .inl (gI g, 5, .inl f_h1_gu)), (to, .inr (9, [.int (nI to_corners), .int to_gustyCorners, .int (nI to_guilds), .int to_draw, .int to_drawTold, to_cornerNames, to_winds, to_lees, to_gustChances, to_gusts, to_guildNames, to_cloths, .ref to_trues, to_strengths, to_reefs, to_pull, to_hold])), (to_trues, .inl (gI g, 5, .inl f_to_trues))] H := hP.sub [1, 2, 0, 3, 4] rfl
    have hD9 : va_D A [(h0, .inr (0, [.ref to, h0_values, .int h0_pull, .int h0_hold])), (h1, .inr (7, [h1_order, h1_reefs, h1_children, h1_hosts, .ref h1_gu, .int h1_up, .int (nI h1_standing), .int h1_day, .int h1_seed, .int h1_firstTrue])), (h1_gu, .inl (gI g, 5, .inl f_h1_gu)), (to, .inr (9, [.int (nI to_corners), .int to_gustyCorners, .int (nI to_guilds), .int to_draw, .int to_drawTold, to_cornerNames, to_winds, to_lees, to_gustChances, to_gusts, to_guildNames, to_cloths, .ref to_trues, to_strengths, to_reefs, to_pull, to_hold])), (to_trues, .inl (gI g, 5, .inl f_to_trues))] := hD.sub [1, 2, 0, 3, 4] (by decide) rfl
    exact xi hx hb hr hlocks rfl hP9 hD9 hS ⟨trivial, rfl⟩ (Nat.le_of_ble_eq_true rfl) (Nat.le_of_ble_eq_true rfl) dX0_truthOf_36
  · refine lv_iload hx hb dX0_truthOf_20 (lv_at hl 0 rfl) ?_
    refine lv_goto (tgt := 36) hx hb dX0_truthOf_22 (by decide) ?_
    have hP9 : va_P g.1 vwCl [(h0, .inr (0, [.ref to, h0_values, .int h0_pull, .int h0_hold])), (h1, .inr (7, [h1_order, h1_reefs, h1_children, h1_hosts, .ref h1_gu, .int h1_up, .int (nI h1_standing), .int h1_day, .int h1_seed, .int h1_firstTrue])), (h1_gu, .inl (gI g, 5, .inl f_h1_gu)), (to, .inr (9, [.int (nI to_corners), .int to_gustyCorners, .int (nI to_guilds), .int to_draw, .int to_drawTold, to_cornerNames, to_winds, to_lees, to_gustChances, to_gusts, to_guildNames, to_cloths, .ref to_trues, to_strengths, to_reefs, to_pull, to_hold])), (to_trues, .inl (gI g, 5, .inl f_to_trues))] H := hP.sub [1, 2, 0, 3, 4] rfl
    have hD9 : va_D A [(h0, .inr (0, [.ref to, h0_values, .int h0_pull, .int h0_hold])), (h1, .inr (7, [h1_order, h1_reefs, h1_children, h1_hosts, .ref h1_gu, .int h1_up, .int (nI h1_standing), .int h1_day, .int h1_seed, .int h1_firstTrue])), (h1_gu, .inl (gI g, 5, .inl f_h1_gu)), (to, .inr (9, [.int (nI to_corners), .int to_gustyCorners, .int (nI to_guilds), .int to_draw, .int to_drawTold, to_cornerNames, to_winds, to_lees, to_gustChances, to_gusts, to_guildNames, to_cloths, .ref to_trues, to_strengths, to_reefs, to_pull, to_hold])), (to_trues, .inl (gI g, 5, .inl f_to_trues))] := hD.sub [1, 2, 0, 3, 4] (by decide) rfl
    exact xi hx hb hr hlocks rfl hP9 hD9 hS ⟨trivial, rfl⟩ (Nat.le_of_ble_eq_true rfl) (Nat.le_of_ble_eq_true rfl) dX0_truthOf_36

set_option maxHeartbeats 4000000 in
set_option maxRecDepth 100000 in
theorem c_X0_clothAhead {l : Launch} {g : Gx} {h0 h1 h1_or h1_ho h1_re to to_cloths : Nat} {h0_values : Value} {h0_pull : Int32} {h0_hold : Int32} {h1_children : Value} {h1_guests : Value} {h1_up : Int32} {h1_standing : Nat} {h1_day : Int32} {h1_seed : Int32} {h1_firstTrue : Int32} {f_h1_or : Nat → Int32} {f_h1_ho : Nat → Int32} {f_h1_re : Nat → Int32} {to_corners : Nat} {to_gustyCorners : Int32} {to_guilds : Nat} {to_draw : Int32} {to_drawTold : Int32} {to_cornerNames : Value} {to_winds : Value} {to_lees : Value} {to_gustChances : Value} {to_gusts : Value} {to_guildNames : Value} {to_trues : Value} {to_strengths : Value} {to_reefs : Value} {to_pull : Value} {to_hold : Value} {f_to_cloths : Nat → Int32} {p0 : Nat} (hb_h1_standing : h1_standing ≤ 8) (ht_h1_or : TN 5 4 f_h1_or) (ht_h1_ho : TM 5 4 f_h1_ho) (hb_to_corners : to_corners ≤ 8) (hb_to_guilds : to_guilds ≤ 5) (hb_p0 : p0 ≤ 4) : MI l g yX0_clothAhead cX0_clothAhead 5 (some .int) 3 0 0 [.ref h0, .ref h1, .int (nI p0)] [(h0, .inr (0, [.ref to, h0_values, .int h0_pull, .int h0_hold])), (h1, .inr (7, [.ref h1_or, .ref h1_re, h1_children, .ref h1_ho, h1_guests, .int h1_up, .int (nI h1_standing), .int h1_day, .int h1_seed, .int h1_firstTrue])), (h1_or, .inl (gI g, 5, .inl f_h1_or)), (h1_ho, .inl (gI g, 5, .inl f_h1_ho)), (h1_re, .inl (gI g, 5, .inl f_h1_re)), (to, .inr (9, [.int (nI to_corners), .int to_gustyCorners, .int (nI to_guilds), .int to_draw, .int to_drawTold, to_cornerNames, to_winds, to_lees, to_gustChances, to_gusts, to_guildNames, .ref to_cloths, to_trues, to_strengths, to_reefs, to_pull, to_hold])), (to_cloths, .inl (gI g, 5, .inl f_to_cloths))] (fun r W' => True ∧ W' = [(h0, .inr (0, [.ref to, h0_values, .int h0_pull, .int h0_hold])), (h1, .inr (7, [.ref h1_or, .ref h1_re, h1_children, .ref h1_ho, h1_guests, .int h1_up, .int (nI h1_standing), .int h1_day, .int h1_seed, .int h1_firstTrue])), (h1_or, .inl (gI g, 5, .inl f_h1_or)), (h1_ho, .inl (gI g, 5, .inl f_h1_ho)), (h1_re, .inl (gI g, 5, .inl f_h1_re)), (to, .inr (9, [.int (nI to_corners), .int to_gustyCorners, .int (nI to_guilds), .int to_draw, .int to_drawTold, to_cornerNames, to_winds, to_lees, to_gustChances, to_gusts, to_guildNames, .ref to_cloths, to_trues, to_strengths, to_reefs, to_pull, to_hold])), (to_cloths, .inl (gI g, 5, .inl f_to_cloths))]) := by
  refine MIof (by decide) (Nat.le_of_ble_eq_true rfl) ?_
  intro p e s m below meth c A ls H locs hcx hA hP hD hS hl
  obtain ⟨hx, hb, hml, hr, hlocks, hown, hts, hE, hnm⟩ := id hcx
  have hown : s.vm.findClass RX0 = some m.cls := hown
  have hK := hE.1
  have hl : lv_has ls 5 [(0, .ref h0), (1, .ref h1), (2, .int (nI p0))] := hl
  refine lv_iconst (v := 0) hx hb dX0_clothAhead_0 (by decide) ?_
  refine lv_istore_n (lv' := [(3, .int 0), (0, .ref h0), (1, .ref h1), (2, .int (nI p0))]) hx hb dX0_clothAhead_1 rfl hl (by decide) rfl (fun ls hl => ?_)
  refine lv_iconst (v := 0) hx hb dX0_clothAhead_2 (by decide) ?_
  refine lv_istore (lv' := [(4, .int 0), (3, .int 0), (0, .ref h0), (1, .ref h1), (2, .int (nI p0))]) hx hb dX0_clothAhead_3 hl (by decide) rfl (fun ls hl => ?_)
  have loop3 : ∀ (n k1 : Nat), k1 + n = to_guilds → ∀ (H : Heap) (locs : List Loc) (ls : Array Slot) (v2 : Int32), va_P g.1 vwCl [(h0, .inr (0, [.ref to, h0_values, .int h0_pull, .int h0_hold])), (h1, .inr (7, [.ref h1_or, .ref h1_re, h1_children, .ref h1_ho, h1_guests, .int h1_up, .int (nI h1_standing), .int h1_day, .int h1_seed, .int h1_firstTrue])), (h1_or, .inl (gI g, 5, .inl f_h1_or)), (h1_ho, .inl (gI g, 5, .inl f_h1_ho)), (h1_re, .inl (gI g, 5, .inl f_h1_re)), (to, .inr (9, [.int (nI to_corners), .int to_gustyCorners, .int (nI to_guilds), .int to_draw, .int to_drawTold, to_cornerNames, to_winds, to_lees, to_gustChances, to_gusts, to_guildNames, .ref to_cloths, to_trues, to_strengths, to_reefs, to_pull, to_hold])), (to_cloths, .inl (gI g, 5, .inl f_to_cloths))] H → va_D A [(h0, .inr (0, [.ref to, h0_values, .int h0_pull, .int h0_hold])), (h1, .inr (7, [.ref h1_or, .ref h1_re, h1_children, .ref h1_ho, h1_guests, .int h1_up, .int (nI h1_standing), .int h1_day, .int h1_seed, .int h1_firstTrue])), (h1_or, .inl (gI g, 5, .inl f_h1_or)), (h1_ho, .inl (gI g, 5, .inl f_h1_ho)), (h1_re, .inl (gI g, 5, .inl f_h1_re)), (to, .inr (9, [.int (nI to_corners), .int to_gustyCorners, .int (nI to_guilds), .int to_draw, .int to_drawTold, to_cornerNames, to_winds, to_lees, to_gustChances, to_gusts, to_guildNames, .ref to_cloths, to_trues, to_strengths, to_reefs, to_pull, to_hold])), (to_cloths, .inl (gI g, 5, .inl f_to_cloths))] → va_S A s.heap H locs → lv_has ls 5 [(4, .int (nI k1)), (3, .int v2), (0, .ref h0), (1, .ref h1), (2, .int (nI p0))] → W p l e (rmD 3 0 0) s m ([Value.ref h0, Value.ref h1, Value.int (nI p0)] : List Value).toArray below meth c H locs 0 0 (MQ below (QI g A (fun r W' => True ∧ W' = [(h0, .inr (0, [.ref to, h0_values, .int h0_pull, .int h0_hold])), (h1, .inr (7, [.ref h1_or, .ref h1_re, h1_children, .ref h1_ho, h1_guests, .int h1_up, .int (nI h1_standing), .int h1_day, .int h1_seed, .int h1_firstTrue])), (h1_or, .inl (gI g, 5, .inl f_h1_or)), (h1_ho, .inl (gI g, 5, .inl f_h1_ho)), (h1_re, .inl (gI g, 5, .inl f_h1_re)), (to, .inr (9, [.int (nI to_corners), .int to_gustyCorners, .int (nI to_guilds), .int to_draw, .int to_drawTold, to_cornerNames, to_winds, to_lees, to_gustChances, to_gusts, to_guildNames, .ref to_cloths, to_trues, to_strengths, to_reefs, to_pull, to_hold])), (to_cloths, .inl (gI g, 5, .inl f_to_cloths))])) ([Value.ref h0, Value.ref h1, Value.int (nI p0)] : List Value).toArray s 0 0 A) (F0 m 5 ls []) := by
    intro n
    induction n with
    | zero =>
      intro k1 hkk1 H locs ls v2 hP hD hS hl
      have hNk1 : to_guilds = k1 := by omega
      subst hNk1
      refine lv_iload hx hb dX0_clothAhead_5 (lv_at hl 0 rfl) ?_
      refine lv_aload_n hx hb dX0_clothAhead_7 rfl (lv_at hl 2 rfl) ?_
      refine va_get (D := g.1) (ci := 0) (v := Value.ref to) (C := RX0) (T := TX0) (N := 4) hx hb hts inlX0 hown hK hP 0 rfl rfl 0 (by decide) (hts _ q7_4) (fun _ h9 => h9) rfl dX0_clothAhead_8 ?_
      refine va_get (D := g.1) (ci := 9) (v := Value.int (nI to_guilds)) (C := RX9) (T := TX9) (N := 17) hx hb hts inlX9 hown hK hP 5 rfl rfl 2 (by decide) (hts _ q38_7) (fun _ h9 => h9) rfl dX0_clothAhead_11 ?_
      refine lv_icmp_ge (tgt := 61) hx hb dX0_clothAhead_14 (by decide) (fun _ => ?_) (fun c4 => absurd (nI_le (a := to_guilds) (b := to_guilds) (by omega) (by omega)) c4)
      refine lv_iload_n hx hb dX0_clothAhead_61 rfl (lv_at hl 1 rfl) ?_
      exact xi hx hb hr hlocks rfl hP hD hS ⟨trivial, rfl⟩ (Nat.le_of_ble_eq_true rfl) (Nat.le_of_ble_eq_true rfl) dX0_clothAhead_62
    | succ n ihk1 =>
      intro k1 hkk1 H locs ls v2 hP hD hS hl
      have hNk1 : k1 < to_guilds := by omega
      refine lv_iload hx hb dX0_clothAhead_5 (lv_at hl 0 rfl) ?_
      refine lv_aload_n hx hb dX0_clothAhead_7 rfl (lv_at hl 2 rfl) ?_
      refine va_get (D := g.1) (ci := 0) (v := Value.ref to) (C := RX0) (T := TX0) (N := 4) hx hb hts inlX0 hown hK hP 0 rfl rfl 0 (by decide) (hts _ q7_4) (fun _ h9 => h9) rfl dX0_clothAhead_8 ?_
      refine va_get (D := g.1) (ci := 9) (v := Value.int (nI to_guilds)) (C := RX9) (T := TX9) (N := 17) hx hb hts inlX9 hown hK hP 5 rfl rfl 2 (by decide) (hts _ q38_7) (fun _ h9 => h9) rfl dX0_clothAhead_11 ?_
      refine lv_icmp_ge (tgt := 61) hx hb dX0_clothAhead_14 (by decide) (fun c5 => absurd c5 (nI_ge (a := k1) (b := to_guilds) (by omega) (by omega))) (fun _ => ?_)
      refine lv_aload_n hx hb dX0_clothAhead_17 rfl (lv_at hl 3 rfl) ?_
      refine va_get (D := g.1) (ci := 7) (v := Value.ref h1_or) (C := RX7) (T := TX7) (N := 10) hx hb hts inlX7 hown hK hP 1 rfl rfl 0 (by decide) (hts _ q38_8) (fun _ h9 => h9) rfl dX0_clothAhead_18 ?_
      refine lv_iload hx hb dX0_clothAhead_21 (lv_at hl 0 rfl) ?_
      refine ia_ld hx hb hK hP 2 1 rfl rfl (k1) rfl (by omega) (by decide) dX0_clothAhead_23 ?_
      obtain ⟨m6, hm6, em6⟩ := ht_h1_or (k1) (by omega)
      refine lv_tope em6 ?_
      refine lv_iload_n hx hb dX0_clothAhead_24 rfl (lv_at hl 4 rfl) ?_
      refine lv_icmp_eq (tgt := 61) hx hb dX0_clothAhead_25 (by decide) (fun c7 => ?_) (fun c7 => ?_)
      · have hn8 := neq (a := m6) (b := p0) (by omega) (by omega) c7
        refine lv_iload_n hx hb dX0_clothAhead_61 rfl (lv_at hl 1 rfl) ?_
        exact xi hx hb hr hlocks rfl hP hD hS ⟨trivial, rfl⟩ (Nat.le_of_ble_eq_true rfl) (Nat.le_of_ble_eq_true rfl) dX0_clothAhead_62
      · have hn9 := nneq (a := m6) (b := p0) (by omega) (by omega) c7
        refine lv_aload_n hx hb dX0_clothAhead_28 rfl (lv_at hl 3 rfl) ?_
        refine lv_aload_n hx hb dX0_clothAhead_29 rfl (lv_at hl 3 rfl) ?_
        refine va_get (D := g.1) (ci := 7) (v := Value.ref h1_or) (C := RX7) (T := TX7) (N := 10) hx hb hts inlX7 hown hK hP 1 rfl rfl 0 (by decide) (hts _ q38_8) (fun _ h9 => h9) rfl dX0_clothAhead_30 ?_
        refine lv_iload hx hb dX0_clothAhead_33 (lv_at hl 0 rfl) ?_
        refine ia_ld hx hb hK hP 2 1 rfl rfl (k1) rfl (by omega) (by decide) dX0_clothAhead_35 ?_
        refine lv_tope em6 ?_
        refine kI (wc := [(h1, .inr (7, [.ref h1_or, .ref h1_re, h1_children, .ref h1_ho, h1_guests, .int h1_up, .int (nI h1_standing), .int h1_day, .int h1_seed, .int h1_firstTrue])), (h1_ho, .inl (gI g, 5, .inl f_h1_ho))]) (wr := [(h0, .inr (0, [.ref to, h0_values, .int h0_pull, .int h0_hold])), (h1_or, .inl (gI g, 5, .inl f_h1_or)), (h1_re, .inl (gI g, 5, .inl f_h1_re)), (to, .inr (9, [.int (nI to_corners), .int to_gustyCorners, .int (nI to_guilds), .int to_draw, .int to_drawTold, to_cornerNames, to_winds, to_lees, to_gustChances, to_gusts, to_guildNames, .ref to_cloths, to_trues, to_strengths, to_reefs, to_pull, to_hold])), (to_cloths, .inl (gI g, 5, .inl f_to_cloths))]) (rV (As := [.int (nI m6)]) (rest := []) (meth2 := "") hcx (c_X7_isBearerUp (by omega) (ht_h1_ho) (by omega) H.size) (gdV q38_9 q38_0 q38_1 q2_5 q38_2) dvX7_isBearerUp ⟨Nat.le_of_ble_eq_true rfl, Nat.le_of_ble_eq_true rfl⟩ (hP.sub [1, 3] rfl) (hD.sub [1, 3] (by decide) rfl) (va_recv hK hP (ci := 7) (q0 := 1) rfl rfl) rfl hl.1 rfl (Nat.le_of_ble_eq_true rfl) dX0_clothAhead_36 ⟨Nat.le_of_ble_eq_true rfl, Nat.le_of_ble_eq_true rfl⟩) hP hD hS hA [1, 3] [0, 2, 4, 5, 6] rfl rfl (by decide) (by decide) (fun r10 W' H locs hw hP hD hS => ?_)
        obtain ⟨⟨m11, hm11, rfl⟩, rfl⟩ := hw
        have hP : va_P g.1 vwCl [(h0, .inr (0, [.ref to, h0_values, .int h0_pull, .int h0_hold])), (h1_or, .inl (gI g, 5, .inl f_h1_or)), (h1_re, .inl (gI g, 5, .inl f_h1_re)), (to, .inr (9, [.int (nI to_corners), .int to_gustyCorners, .int (nI to_guilds), .int to_draw, .int to_drawTold, to_cornerNames, to_winds, to_lees, to_gustChances, to_gusts, to_guildNames, .ref to_cloths, to_trues, to_strengths, to_reefs, to_pull, to_hold])), (to_cloths, .inl (gI g, 5, .inl f_to_cloths)), (h1, .inr (7, [.ref h1_or, .ref h1_re, h1_children, .ref h1_ho, h1_guests, .int h1_up, .int (nI h1_standing), .int h1_day, .int h1_seed, .int h1_firstTrue])), (h1_ho, .inl (gI g, 5, .inl f_h1_ho))] H := hP
        have hD : va_D A [(h0, .inr (0, [.ref to, h0_values, .int h0_pull, .int h0_hold])), (h1_or, .inl (gI g, 5, .inl f_h1_or)), (h1_re, .inl (gI g, 5, .inl f_h1_re)), (to, .inr (9, [.int (nI to_corners), .int to_gustyCorners, .int (nI to_guilds), .int to_draw, .int to_drawTold, to_cornerNames, to_winds, to_lees, to_gustChances, to_gusts, to_guildNames, .ref to_cloths, to_trues, to_strengths, to_reefs, to_pull, to_hold])), (to_cloths, .inl (gI g, 5, .inl f_to_cloths)), (h1, .inr (7, [.ref h1_or, .ref h1_re, h1_children, .ref h1_ho, h1_guests, .int h1_up, .int (nI h1_standing), .int h1_day, .int h1_seed, .int h1_firstTrue])), (h1_ho, .inl (gI g, 5, .inl f_h1_ho))] := hD
        refine lv_if_eq (tgt := 55) hx hb dX0_clothAhead_39 (by decide) (fun c12 => ?_) (fun c12 => ?_)
        · have hn13 := neq (a := m11) (b := 0) (by omega) (by omega) c12
          refine lv_iinc (v := (nI (k1 + 1))) (lv' := [(4, .int (nI (k1 + 1))), (3, .int v2), (0, .ref h0), (1, .ref h1), (2, .int (nI p0))]) hx hb dX0_clothAhead_55 hl (k := 0) rfl (nI_1 _) (by decide) rfl (fun ls hl => ?_)
          refine lv_goto (tgt := 5) hx hb dX0_clothAhead_58 (by decide) ?_
          exact ihk1 (k1 + 1) (by omega) H locs ls (v2) (hP.sub [0, 5, 1, 6, 2, 3, 4] rfl) (hD.sub [0, 5, 1, 6, 2, 3, 4] (by decide) rfl) hS (lv_sub hl [0, 1, 2, 3, 4] rfl)
        · have hn14 := nneq (a := m11) (b := 0) (by omega) (by omega) c12
          refine lv_aload_n hx hb dX0_clothAhead_42 rfl (lv_at hl 2 rfl) ?_
          refine lv_aload_n hx hb dX0_clothAhead_43 rfl (lv_at hl 3 rfl) ?_
          refine lv_aload_n hx hb dX0_clothAhead_44 rfl (lv_at hl 3 rfl) ?_
          refine va_get (D := g.1) (ci := 7) (v := Value.ref h1_or) (C := RX7) (T := TX7) (N := 10) hx hb hts inlX7 hown hK hP 5 rfl rfl 0 (by decide) (hts _ q38_8) (fun _ h9 => h9) rfl dX0_clothAhead_45 ?_
          refine lv_iload hx hb dX0_clothAhead_48 (lv_at hl 0 rfl) ?_
          refine ia_ld hx hb hK hP 1 1 rfl rfl (k1) rfl (by omega) (by decide) dX0_clothAhead_50 ?_
          refine lv_tope em6 ?_
          refine kI (wc := [(h0, .inr (0, [.ref to, h0_values, .int h0_pull, .int h0_hold])), (h1, .inr (7, [.ref h1_or, .ref h1_re, h1_children, .ref h1_ho, h1_guests, .int h1_up, .int (nI h1_standing), .int h1_day, .int h1_seed, .int h1_firstTrue])), (h1_re, .inl (gI g, 5, .inl f_h1_re)), (to, .inr (9, [.int (nI to_corners), .int to_gustyCorners, .int (nI to_guilds), .int to_draw, .int to_drawTold, to_cornerNames, to_winds, to_lees, to_gustChances, to_gusts, to_guildNames, .ref to_cloths, to_trues, to_strengths, to_reefs, to_pull, to_hold])), (to_cloths, .inl (gI g, 5, .inl f_to_cloths))]) (wr := [(h1_or, .inl (gI g, 5, .inl f_h1_or)), (h1_ho, .inl (gI g, 5, .inl f_h1_ho))]) (rV (As := [.ref h1, .int (nI m6)]) (rest := []) (meth2 := "") hcx (c_X0_clothOf (by omega) (by omega) (by omega) (by omega) H.size) (gdV q38_10 q33_10 q33_11 q2_1 q33_12) dvX0_clothOf ⟨Nat.le_of_ble_eq_true rfl, Nat.le_of_ble_eq_true rfl⟩ (hP.sub [0, 5, 2, 3, 4] rfl) (hD.sub [0, 5, 2, 3, 4] (by decide) rfl) (va_recv hK hP (ci := 0) (q0 := 0) rfl rfl) rfl hl.1 rfl (Nat.le_of_ble_eq_true rfl) dX0_clothAhead_51 ⟨Nat.le_of_ble_eq_true rfl, Nat.le_of_ble_eq_true rfl⟩) hP hD hS hA [0, 5, 2, 3, 4] [1, 6] rfl rfl (by decide) (by decide) (fun r15 W' H locs hw hP hD hS => ?_)
          obtain ⟨hr16, rfl⟩ := hw
          have hP : va_P g.1 vwCl [(h1_or, .inl (gI g, 5, .inl f_h1_or)), (h1_ho, .inl (gI g, 5, .inl f_h1_ho)), (h0, .inr (0, [.ref to, h0_values, .int h0_pull, .int h0_hold])), (h1, .inr (7, [.ref h1_or, .ref h1_re, h1_children, .ref h1_ho, h1_guests, .int h1_up, .int (nI h1_standing), .int h1_day, .int h1_seed, .int h1_firstTrue])), (h1_re, .inl (gI g, 5, .inl f_h1_re)), (to, .inr (9, [.int (nI to_corners), .int to_gustyCorners, .int (nI to_guilds), .int to_draw, .int to_drawTold, to_cornerNames, to_winds, to_lees, to_gustChances, to_gusts, to_guildNames, .ref to_cloths, to_trues, to_strengths, to_reefs, to_pull, to_hold])), (to_cloths, .inl (gI g, 5, .inl f_to_cloths))] H := hP
          have hD : va_D A [(h1_or, .inl (gI g, 5, .inl f_h1_or)), (h1_ho, .inl (gI g, 5, .inl f_h1_ho)), (h0, .inr (0, [.ref to, h0_values, .int h0_pull, .int h0_hold])), (h1, .inr (7, [.ref h1_or, .ref h1_re, h1_children, .ref h1_ho, h1_guests, .int h1_up, .int (nI h1_standing), .int h1_day, .int h1_seed, .int h1_firstTrue])), (h1_re, .inl (gI g, 5, .inl f_h1_re)), (to, .inr (9, [.int (nI to_corners), .int to_gustyCorners, .int (nI to_guilds), .int to_draw, .int to_drawTold, to_cornerNames, to_winds, to_lees, to_gustChances, to_gusts, to_guildNames, .ref to_cloths, to_trues, to_strengths, to_reefs, to_pull, to_hold])), (to_cloths, .inl (gI g, 5, .inl f_to_cloths))] := hD
          refine lv_istore_n (lv' := [(3, .int r15), (4, .int (nI k1)), (0, .ref h0), (1, .ref h1), (2, .int (nI p0))]) hx hb dX0_clothAhead_54 rfl hl (by decide) rfl (fun ls hl => ?_)
          refine lv_iinc (v := (nI (k1 + 1))) (lv' := [(4, .int (nI (k1 + 1))), (3, .int r15), (0, .ref h0), (1, .ref h1), (2, .int (nI p0))]) hx hb dX0_clothAhead_55 hl (k := 1) rfl (nI_1 _) (by decide) rfl (fun ls hl => ?_)
          refine lv_goto (tgt := 5) hx hb dX0_clothAhead_58 (by decide) ?_
          exact ihk1 (k1 + 1) (by omega) H locs ls (r15) (hP.sub [2, 3, 0, 1, 4, 5, 6] rfl) (hD.sub [2, 3, 0, 1, 4, 5, 6] (by decide) rfl) hS (lv_sub hl [0, 1, 2, 3, 4] rfl)
  exact loop3 (to_guilds - (0)) (0) (by omega) H locs ls (0) hP hD hS hl
