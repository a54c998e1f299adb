theorem nI_dec {a : Nat} (h : 1 ≤ a) : nI a + Int32.ofInt (-1) = nI (a - 1) := by
  obtain ⟨n, rfl⟩ : ∃ n, a = n + 1 := ⟨a - 1, by omega⟩
  exact pk_m1 n
set_option maxHeartbeats 4000000 in
set_option maxRecDepth 100000 in
theorem c_X9_hasGuild {l : Launch} {g : Gx} {h0 : Nat} {h0_corners : Nat} {h0_gustyCorners : Int32} {h0_guilds : Nat} {h0_draw : Int32} {h0_drawTold : Int32} {h0_cornerNames : Value} {h0_winds : Value} {h0_lees : Value} {h0_gustChances : Value} {h0_gusts : Value} {h0_guildNames : Value} {h0_cloths : Value} {h0_trues : Value} {h0_strengths : Value} {h0_reefs : Value} {h0_pull : Value} {h0_hold : Value} {p0 : Int32} (hb_h0_corners : h0_corners ≤ 8) (hb_h0_guilds : h0_guilds ≤ 5) : MI l g yX9_hasGuild cX9_hasGuild 2 (some .boolean) 2 0 0 [.ref h0, .int p0] [(h0, .inr (9, [.int (nI h0_corners), .int h0_gustyCorners, .int (nI h0_guilds), .int h0_draw, .int h0_drawTold, h0_cornerNames, h0_winds, h0_lees, h0_gustChances, h0_gusts, h0_guildNames, h0_cloths, h0_trues, h0_strengths, h0_reefs, h0_pull, h0_hold]))] (fun r W' => (((True) ∧ 0 = r) ∨ ((∃ m : Nat, m < h0_guilds ∧ p0 = nI m) ∧ 1 = r)) ∧ W' = [(h0, .inr (9, [.int (nI h0_corners), .int h0_gustyCorners, .int (nI h0_guilds), .int h0_draw, .int h0_drawTold, h0_cornerNames, h0_winds, h0_lees, h0_gustChances, h0_gusts, h0_guildNames, h0_cloths, h0_trues, h0_strengths, h0_reefs, h0_pull, h0_hold]))]) := by
  refine MIof (by decide) (Nat.le_of_ble_eq_true rfl) ?_
  intro p e s m below meth c A ls H locs hcx hA hP hD hS hl
  obtain ⟨hx, hb, hml, hr, hlocks, hown, hts, hE, hnm⟩ := id hcx
  have hown : s.vm.findClass RX9 = some m.cls := hown
  have hK := hE.1
  have hl : lv_has ls 2 [(0, .ref h0), (1, .int p0)] := hl
  refine lv_iload_n hx hb dX9_hasGuild_0 rfl (lv_at hl 1 rfl) ?_
  refine lv_if_lt (tgt := 16) hx hb dX9_hasGuild_1 (by decide) (fun c1 => ?_) (fun c1 => ?_)
  · refine lv_iconst (v := 0) hx hb dX9_hasGuild_16 (by decide) ?_
    exact xi hx hb hr hlocks rfl hP hD hS ⟨(Or.inl ⟨trivial, rfl⟩), rfl⟩ (Nat.le_of_ble_eq_true rfl) (Nat.le_of_ble_eq_true rfl) dX9_hasGuild_17
  · refine lv_iload_n hx hb dX9_hasGuild_4 rfl (lv_at hl 1 rfl) ?_
    refine lv_aload_n hx hb dX9_hasGuild_5 rfl (lv_at hl 0 rfl) ?_
    refine va_get (D := g.1) (ci := 9) (v := Value.int (nI h0_guilds)) (C := RX9) (T := TX9) (N := 17) hx hb hts inlX9 hown hK hP 0 rfl rfl 2 (by decide) (hts _ q9_14) (fun _ h9 => h9) rfl dX9_hasGuild_6 ?_
    refine lv_icmp_ge (tgt := 16) hx hb dX9_hasGuild_9 (by decide) (fun c2 => ?_) (fun c2 => ?_)
    · refine lv_iconst (v := 0) hx hb dX9_hasGuild_16 (by decide) ?_
      exact xi hx hb hr hlocks rfl hP hD hS ⟨(Or.inl ⟨trivial, rfl⟩), rfl⟩ (Nat.le_of_ble_eq_true rfl) (Nat.le_of_ble_eq_true rfl) dX9_hasGuild_17
    · obtain ⟨m3, hm3, em3⟩ := inN' (B := h0_guilds) (by omega) c1 c2
      subst em3
      refine lv_iconst (v := 1) hx hb dX9_hasGuild_12 (by decide) ?_
      refine lv_goto (tgt := 17) hx hb dX9_hasGuild_13 (by decide) ?_
      exact xi hx hb hr hlocks rfl hP hD hS ⟨(Or.inr ⟨⟨m3, by omega, rfl⟩, rfl⟩), rfl⟩ (Nat.le_of_ble_eq_true rfl) (Nat.le_of_ble_eq_true rfl) dX9_hasGuild_17

set_option maxHeartbeats 4000000 in
set_option maxRecDepth 100000 in
theorem c_X9_allGuilds {l : Launch} {g : Gx} {h0 : Nat} {h0_corners : Nat} {h0_gustyCorners : Int32} {h0_guilds : Nat} {h0_draw : Int32} {h0_drawTold : Int32} {h0_cornerNames : Value} {h0_winds : Value} {h0_lees : Value} {h0_gustChances : Value} {h0_gusts : Value} {h0_guildNames : Value} {h0_cloths : Value} {h0_trues : Value} {h0_strengths : Value} {h0_reefs : Value} {h0_pull : Value} {h0_hold : Value} (hb_h0_corners : h0_corners ≤ 8) (hb_h0_guilds : h0_guilds ≤ 5) : MI l g yX9_allGuilds cX9_allGuilds 1 (some .int) 2 0 0 [.ref h0] [(h0, .inr (9, [.int (nI h0_corners), .int h0_gustyCorners, .int (nI h0_guilds), .int h0_draw, .int h0_drawTold, h0_cornerNames, h0_winds, h0_lees, h0_gustChances, h0_gusts, h0_guildNames, h0_cloths, h0_trues, h0_strengths, h0_reefs, h0_pull, h0_hold]))] (fun r W' => True ∧ W' = [(h0, .inr (9, [.int (nI h0_corners), .int h0_gustyCorners, .int (nI h0_guilds), .int h0_draw, .int h0_drawTold, h0_cornerNames, h0_winds, h0_lees, h0_gustChances, h0_gusts, h0_guildNames, h0_cloths, h0_trues, h0_strengths, h0_reefs, h0_pull, h0_hold]))]) := by
  refine MIof (by decide) (Nat.le_of_ble_eq_true rfl) ?_
  intro p e s m below meth c A ls H locs hcx hA hP hD hS hl
  obtain ⟨hx, hb, hml, hr, hlocks, hown, hts, hE, hnm⟩ := id hcx
  have hown : s.vm.findClass RX9 = some m.cls := hown
  have hK := hE.1
  have hl : lv_has ls 1 [(0, .ref h0)] := hl
  refine lv_iconst (v := 1) hx hb dX9_allGuilds_0 (by decide) ?_
  refine lv_aload_n hx hb dX9_allGuilds_1 rfl (lv_at hl 0 rfl) ?_
  refine va_get (D := g.1) (ci := 9) (v := Value.int (nI h0_guilds)) (C := RX9) (T := TX9) (N := 17) hx hb hts inlX9 hown hK hP 0 rfl rfl 2 (by decide) (hts _ q9_14) (fun _ h9 => h9) rfl dX9_allGuilds_2 ?_
  refine lv_ishl hx hb dX9_allGuilds_5 ?_
  refine lv_topi (fun x1 ex1 => ?_)
  refine lv_iconst (v := 1) hx hb dX9_allGuilds_6 (by decide) ?_
  refine lv_isub hx hb dX9_allGuilds_7 ?_
  refine lv_topi (fun x2 ex2 => ?_)
  exact xi hx hb hr hlocks rfl hP hD hS ⟨trivial, rfl⟩ (Nat.le_of_ble_eq_true rfl) (Nat.le_of_ble_eq_true rfl) dX9_allGuilds_8

set_option maxHeartbeats 4000000 in
set_option maxRecDepth 100000 in
theorem c_X0_isRound {l : Launch} {g : Gx} {h0 h1 h2 : Nat} {h0_values : Value} {h0_pull : Int32} {h0_hold : Int32} {h1_order : Value} {h1_reefs : Value} {h1_children : Value} {h1_hosts : Value} {h1_guests : Value} {h1_up : Int32} {h1_standing : Nat} {h1_day : Int32} {h1_seed : Int32} {h1_firstTrue : Int32} {h2_corners : Nat} {h2_gustyCorners : Int32} {h2_guilds : Nat} {h2_draw : Int32} {h2_drawTold : Int32} {h2_cornerNames : Value} {h2_winds : Value} {h2_lees : Value} {h2_gustChances : Value} {h2_gusts : Value} {h2_guildNames : Value} {h2_cloths : Value} {h2_trues : Value} {h2_strengths : Value} {h2_reefs : Value} {h2_pull : Value} {h2_hold : Value} (hb_h1_standing : h1_standing ≤ 8) (hb_h2_corners : h2_corners ≤ 8) (hb_h2_guilds : h2_guilds ≤ 5) : MI l g yX0_isRound cX0_isRound 2 (some .boolean) 2 0 0 [.ref h0, .ref h1] [(h0, .inr (0, [.ref h2, h0_values, .int h0_pull, .int h0_hold])), (h1, .inr (7, [h1_order, h1_reefs, h1_children, h1_hosts, h1_guests, .int h1_up, .int (nI h1_standing), .int h1_day, .int h1_seed, .int h1_firstTrue])), (h2, .inr (9, [.int (nI h2_corners), .int h2_gustyCorners, .int (nI h2_guilds), .int h2_draw, .int h2_drawTold, h2_cornerNames, h2_winds, h2_lees, h2_gustChances, h2_gusts, h2_guildNames, h2_cloths, h2_trues, h2_strengths, h2_reefs, h2_pull, h2_hold]))] (fun r W' => (((h2_corners ≤ h1_standing) ∧ 1 = r) ∨ ((h1_standing < h2_corners) ∧ 0 = r)) ∧ W' = [(h0, .inr (0, [.ref h2, h0_values, .int h0_pull, .int h0_hold])), (h1, .inr (7, [h1_order, h1_reefs, h1_children, h1_hosts, h1_guests, .int h1_up, .int (nI h1_standing), .int h1_day, .int h1_seed, .int h1_firstTrue])), (h2, .inr (9, [.int (nI h2_corners), .int h2_gustyCorners, .int (nI h2_guilds), .int h2_draw, .int h2_drawTold, h2_cornerNames, h2_winds, h2_lees, h2_gustChances, h2_gusts, h2_guildNames, h2_cloths, h2_trues, h2_strengths, h2_reefs, h2_pull, h2_hold]))]) := by
  refine MIof (by decide) (Nat.le_of_ble_eq_true rfl) ?_
  intro p e s m below meth c A ls H locs hcx hA hP hD hS hl
  obtain ⟨hx, hb, hml, hr, hlocks, hown, hts, hE, hnm⟩ := id hcx
  have hown : s.vm.findClass RX0 = some m.cls := hown
  have hK := hE.1
  have hl : lv_has ls 2 [(0, .ref h0), (1, .ref h1)] := hl
  refine lv_aload_n hx hb dX0_isRound_0 rfl (lv_at hl 1 rfl) ?_
  refine va_get (D := g.1) (ci := 7) (v := Value.int (nI h1_standing)) (C := RX7) (T := TX7) (N := 10) hx hb hts inlX7 hown hK hP 1 rfl rfl 6 (by decide) (hts _ q37_17) (fun _ h9 => h9) rfl dX0_isRound_1 ?_
  refine lv_aload_n hx hb dX0_isRound_4 rfl (lv_at hl 0 rfl) ?_
  refine va_get (D := g.1) (ci := 0) (v := Value.ref h2) (C := RX0) (T := TX0) (N := 4) hx hb hts inlX0 hown hK hP 0 rfl rfl 0 (by decide) (hts _ q7_4) (fun _ h9 => h9) rfl dX0_isRound_5 ?_
  refine va_get (D := g.1) (ci := 9) (v := Value.int (nI h2_corners)) (C := RX9) (T := TX9) (N := 17) hx hb hts inlX9 hown hK hP 2 rfl rfl 0 (by decide) (hts _ q37_18) (fun _ h9 => h9) rfl dX0_isRound_8 ?_
  refine lv_icmp_lt (tgt := 18) hx hb dX0_isRound_11 (by decide) (fun c1 => ?_) (fun c1 => ?_)
  · have hn2 := nlt (a := h1_standing) (b := h2_corners) (by omega) (by omega) c1
    refine lv_iconst (v := 0) hx hb dX0_isRound_18 (by decide) ?_
    exact xi hx hb hr hlocks rfl hP hD hS ⟨(Or.inr ⟨by omega, rfl⟩), rfl⟩ (Nat.le_of_ble_eq_true rfl) (Nat.le_of_ble_eq_true rfl) dX0_isRound_19
  · have hn3 := nnlt (a := h1_standing) (b := h2_corners) (by omega) (by omega) c1
    refine lv_iconst (v := 1) hx hb dX0_isRound_14 (by decide) ?_
    refine lv_goto (tgt := 19) hx hb dX0_isRound_15 (by decide) ?_
    exact xi hx hb hr hlocks rfl hP hD hS ⟨(Or.inl ⟨by omega, rfl⟩), rfl⟩ (Nat.le_of_ble_eq_true rfl) (Nat.le_of_ble_eq_true rfl) dX0_isRound_19

set_option maxHeartbeats 4000000 in
set_option maxRecDepth 100000 in
theorem c_X1_joined {l : Launch} {g : Gx} {p0 : Int32} {p1 : Int32} {p2 : Int32} : MI l g yX1_joined cX1_joined 3 (some .int) 2 0 0 [.int p0, .int p1, .int p2] [] (fun r W' => True ∧ W' = []) := by
  refine MIof (by decide) (Nat.le_of_ble_eq_true rfl) ?_
  intro p e s m below meth c A ls H locs hcx hA hP hD hS hl
  obtain ⟨hx, hb, hml, hr, hlocks, hown, hts, hE, hnm⟩ := id hcx
  have hown : s.vm.findClass RX1 = some m.cls := hown
  have hK := hE.1
  have hl : lv_has ls 3 [(0, .int p0), (1, .int p1), (2, .int p2)] := hl
  refine lv_iload_n hx hb dX1_joined_0 rfl (lv_at hl 0 rfl) ?_
  by_cases c1 : p0 = 16
  · refine lv_lookup (off := 152) (tgt := 153) hx hb dX1_joined_1 (by decide) (by rw [c1]; decide) (by decide) ?_
    refine lv_iload_n hx hb dX1_joined_153 rfl (lv_at hl 1 rfl) ?_
    refine lv_if_eq (tgt := 165) hx hb dX1_joined_154 (by decide) (fun c2 => ?_) (fun c2 => ?_)
    · refine lv_iconst (v := 0) hx hb dX1_joined_165 (by decide) ?_
      exact xi hx hb hr hlocks rfl hP hD hS ⟨trivial, rfl⟩ (Nat.le_of_ble_eq_true rfl) (Nat.le_of_ble_eq_true rfl) dX1_joined_166
    · refine lv_iload_n hx hb dX1_joined_157 rfl (lv_at hl 2 rfl) ?_
      refine lv_if_eq (tgt := 165) hx hb dX1_joined_158 (by decide) (fun c3 => ?_) (fun c3 => ?_)
      · refine lv_iconst (v := 0) hx hb dX1_joined_165 (by decide) ?_
        exact xi hx hb hr hlocks rfl hP hD hS ⟨trivial, rfl⟩ (Nat.le_of_ble_eq_true rfl) (Nat.le_of_ble_eq_true rfl) dX1_joined_166
      · refine lv_iconst (v := 1) hx hb dX1_joined_161 (by decide) ?_
        refine lv_goto (tgt := 166) hx hb dX1_joined_162 (by decide) ?_
        exact xi hx hb hr hlocks rfl hP hD hS ⟨trivial, rfl⟩ (Nat.le_of_ble_eq_true rfl) (Nat.le_of_ble_eq_true rfl) dX1_joined_166
  by_cases c4 : p0 = 37
  · refine lv_lookup (off := 107) (tgt := 108) hx hb dX1_joined_1 (by decide) (by rw [c4]; decide) (by decide) ?_
    refine lv_iload_n hx hb dX1_joined_108 rfl (lv_at hl 2 rfl) ?_
    refine lv_if_ne (tgt := 116) hx hb dX1_joined_109 (by decide) (fun c5 => ?_) (fun c5 => ?_)
    · refine lv_iload_n hx hb dX1_joined_116 rfl (lv_at hl 1 rfl) ?_
      refine lv_iload_n hx hb dX1_joined_117 rfl (lv_at hl 2 rfl) ?_
      refine lv_irem hx hb dX1_joined_118 c5 ?_
      refine lv_topi (fun x6 ex6 => ?_)
      exact xi hx hb hr hlocks rfl hP hD hS ⟨trivial, rfl⟩ (Nat.le_of_ble_eq_true rfl) (Nat.le_of_ble_eq_true rfl) dX1_joined_119
    · refine lv_iconst (v := 0) hx hb dX1_joined_112 (by decide) ?_
      refine lv_goto (tgt := 119) hx hb dX1_joined_113 (by decide) ?_
      exact xi hx hb hr hlocks rfl hP hD hS ⟨trivial, rfl⟩ (Nat.le_of_ble_eq_true rfl) (Nat.le_of_ble_eq_true rfl) dX1_joined_119
  by_cases c7 : p0 = 42
  · refine lv_lookup (off := 91) (tgt := 92) hx hb dX1_joined_1 (by decide) (by rw [c7]; decide) (by decide) ?_
    refine lv_iload_n hx hb dX1_joined_92 rfl (lv_at hl 1 rfl) ?_
    refine lv_iload_n hx hb dX1_joined_93 rfl (lv_at hl 2 rfl) ?_
    refine lv_imul hx hb dX1_joined_94 ?_
    refine lv_topi (fun x8 ex8 => ?_)
    exact xi hx hb hr hlocks rfl hP hD hS ⟨trivial, rfl⟩ (Nat.le_of_ble_eq_true rfl) (Nat.le_of_ble_eq_true rfl) dX1_joined_95
  by_cases c9 : p0 = 43
  · refine lv_lookup (off := 83) (tgt := 84) hx hb dX1_joined_1 (by decide) (by rw [c9]; decide) (by decide) ?_
    refine lv_iload_n hx hb dX1_joined_84 rfl (lv_at hl 1 rfl) ?_
    refine lv_iload_n hx hb dX1_joined_85 rfl (lv_at hl 2 rfl) ?_
    refine lv_iadd hx hb dX1_joined_86 ?_
    refine lv_topi (fun x10 ex10 => ?_)
    exact xi hx hb hr hlocks rfl hP hD hS ⟨trivial, rfl⟩ (Nat.le_of_ble_eq_true rfl) (Nat.le_of_ble_eq_true rfl) dX1_joined_87
  by_cases c11 : p0 = 45
  · refine lv_lookup (off := 87) (tgt := 88) hx hb dX1_joined_1 (by decide) (by rw [c11]; decide) (by decide) ?_
    refine lv_iload_n hx hb dX1_joined_88 rfl (lv_at hl 1 rfl) ?_
    refine lv_iload_n hx hb dX1_joined_89 rfl (lv_at hl 2 rfl) ?_
    refine lv_isub hx hb dX1_joined_90 ?_
    refine lv_topi (fun x12 ex12 => ?_)
    exact xi hx hb hr hlocks rfl hP hD hS ⟨trivial, rfl⟩ (Nat.le_of_ble_eq_true rfl) (Nat.le_of_ble_eq_true rfl) dX1_joined_91
  by_cases c13 : p0 = 47
  · refine lv_lookup (off := 95) (tgt := 96) hx hb dX1_joined_1 (by decide) (by rw [c13]; decide) (by decide) ?_
    refine lv_iload_n hx hb dX1_joined_96 rfl (lv_at hl 2 rfl) ?_
    refine lv_if_ne (tgt := 104) hx hb dX1_joined_97 (by decide) (fun c14 => ?_) (fun c14 => ?_)
    · refine lv_iload_n hx hb dX1_joined_104 rfl (lv_at hl 1 rfl) ?_
      refine lv_iload_n hx hb dX1_joined_105 rfl (lv_at hl 2 rfl) ?_
      refine lv_idiv hx hb dX1_joined_106 c14 ?_
      refine lv_topi (fun x15 ex15 => ?_)
      exact xi hx hb hr hlocks rfl hP hD hS ⟨trivial, rfl⟩ (Nat.le_of_ble_eq_true rfl) (Nat.le_of_ble_eq_true rfl) dX1_joined_107
    · refine lv_iconst (v := 0) hx hb dX1_joined_100 (by decide) ?_
      refine lv_goto (tgt := 107) hx hb dX1_joined_101 (by decide) ?_
      exact xi hx hb hr hlocks rfl hP hD hS ⟨trivial, rfl⟩ (Nat.le_of_ble_eq_true rfl) (Nat.le_of_ble_eq_true rfl) dX1_joined_107
  by_cases c16 : p0 = 60
  · refine lv_lookup (off := 119) (tgt := 120) hx hb dX1_joined_1 (by decide) (by rw [c16]; decide) (by decide) ?_
    refine lv_iload_n hx hb dX1_joined_120 rfl (lv_at hl 1 rfl) ?_
    refine lv_iload_n hx hb dX1_joined_121 rfl (lv_at hl 2 rfl) ?_
    refine lv_icmp_ge (tgt := 129) hx hb dX1_joined_122 (by decide) (fun c17 => ?_) (fun c17 => ?_)
    · refine lv_iconst (v := 0) hx hb dX1_joined_129 (by decide) ?_
      exact xi hx hb hr hlocks rfl hP hD hS ⟨trivial, rfl⟩ (Nat.le_of_ble_eq_true rfl) (Nat.le_of_ble_eq_true rfl) dX1_joined_130
    · refine lv_iconst (v := 1) hx hb dX1_joined_125 (by decide) ?_
      refine lv_goto (tgt := 130) hx hb dX1_joined_126 (by decide) ?_
      exact xi hx hb hr hlocks rfl hP hD hS ⟨trivial, rfl⟩ (Nat.le_of_ble_eq_true rfl) (Nat.le_of_ble_eq_true rfl) dX1_joined_130
  by_cases c18 : p0 = 61
  · refine lv_lookup (off := 141) (tgt := 142) hx hb dX1_joined_1 (by decide) (by rw [c18]; decide) (by decide) ?_
    refine lv_iload_n hx hb dX1_joined_142 rfl (lv_at hl 1 rfl) ?_
    refine lv_iload_n hx hb dX1_joined_143 rfl (lv_at hl 2 rfl) ?_
    refine lv_icmp_ne (tgt := 151) hx hb dX1_joined_144 (by decide) (fun c19 => ?_) (fun c19 => ?_)
    · refine lv_iconst (v := 0) hx hb dX1_joined_151 (by decide) ?_
      exact xi hx hb hr hlocks rfl hP hD hS ⟨trivial, rfl⟩ (Nat.le_of_ble_eq_true rfl) (Nat.le_of_ble_eq_true rfl) dX1_joined_152
    · refine lv_iconst (v := 1) hx hb dX1_joined_147 (by decide) ?_
      refine lv_goto (tgt := 152) hx hb dX1_joined_148 (by decide) ?_
      exact xi hx hb hr hlocks rfl hP hD hS ⟨trivial, rfl⟩ (Nat.le_of_ble_eq_true rfl) (Nat.le_of_ble_eq_true rfl) dX1_joined_152
  by_cases c20 : p0 = 62
  · refine lv_lookup (off := 130) (tgt := 131) hx hb dX1_joined_1 (by decide) (by rw [c20]; decide) (by decide) ?_
    refine lv_iload_n hx hb dX1_joined_131 rfl (lv_at hl 1 rfl) ?_
    refine lv_iload_n hx hb dX1_joined_132 rfl (lv_at hl 2 rfl) ?_
    refine lv_icmp_le (tgt := 140) hx hb dX1_joined_133 (by decide) (fun c21 => ?_) (fun c21 => ?_)
    · refine lv_iconst (v := 0) hx hb dX1_joined_140 (by decide) ?_
      exact xi hx hb hr hlocks rfl hP hD hS ⟨trivial, rfl⟩ (Nat.le_of_ble_eq_true rfl) (Nat.le_of_ble_eq_true rfl) dX1_joined_141
    · refine lv_iconst (v := 1) hx hb dX1_joined_136 (by decide) ?_
      refine lv_goto (tgt := 141) hx hb dX1_joined_137 (by decide) ?_
      exact xi hx hb hr hlocks rfl hP hD hS ⟨trivial, rfl⟩ (Nat.le_of_ble_eq_true rfl) (Nat.le_of_ble_eq_true rfl) dX1_joined_141
  refine lv_lookup (off := 166) (tgt := 167) hx hb dX1_joined_1 (by decide) ((lv_osw (k := 16) c1 (by decide)).trans ((lv_osw (k := 37) c4 (by decide)).trans ((lv_osw (k := 42) c7 (by decide)).trans ((lv_osw (k := 43) c9 (by decide)).trans ((lv_osw (k := 45) c11 (by decide)).trans ((lv_osw (k := 47) c13 (by decide)).trans ((lv_osw (k := 60) c16 (by decide)).trans ((lv_osw (k := 61) c18 (by decide)).trans ((lv_osw (k := 62) c20 (by decide)).trans (rfl)))))))))) (by decide) ?_
  refine lv_iload_n hx hb dX1_joined_167 rfl (lv_at hl 1 rfl) ?_
  refine lv_if_ne (tgt := 175) hx hb dX1_joined_168 (by decide) (fun c22 => ?_) (fun c22 => ?_)
  · refine lv_iconst (v := 1) hx hb dX1_joined_175 (by decide) ?_
    refine lv_goto (tgt := 180) hx hb dX1_joined_176 (by decide) ?_
    exact xi hx hb hr hlocks rfl hP hD hS ⟨trivial, rfl⟩ (Nat.le_of_ble_eq_true rfl) (Nat.le_of_ble_eq_true rfl) dX1_joined_180
  · refine lv_iload_n hx hb dX1_joined_171 rfl (lv_at hl 2 rfl) ?_
    refine lv_if_eq (tgt := 179) hx hb dX1_joined_172 (by decide) (fun c23 => ?_) (fun c23 => ?_)
    · refine lv_iconst (v := 0) hx hb dX1_joined_179 (by decide) ?_
      exact xi hx hb hr hlocks rfl hP hD hS ⟨trivial, rfl⟩ (Nat.le_of_ble_eq_true rfl) (Nat.le_of_ble_eq_true rfl) dX1_joined_180
    · refine lv_iconst (v := 1) hx hb dX1_joined_175 (by decide) ?_
      refine lv_goto (tgt := 180) hx hb dX1_joined_176 (by decide) ?_
      exact xi hx hb hr hlocks rfl hP hD hS ⟨trivial, rfl⟩ (Nat.le_of_ble_eq_true rfl) (Nat.le_of_ble_eq_true rfl) dX1_joined_180

set_option maxHeartbeats 4000000 in
set_option maxRecDepth 100000 in
theorem c_X1_valueBy {l : Launch} {g : Gx} {h0 va h0_op h0_nu h0_st : Nat} {h0_length : Nat} {h0_isTold : Nat} {h0_units : Nat} {f_h0_op : Nat → Int32} {f_h0_nu : Nat → Int32} {f_h0_st : Nat → Int32} {f_va : Nat → Int32} (hb_h0_length : h0_length ≤ 300) (hb_h0_isTold : h0_isTold ≤ 1) (hb_h0_units : h0_units ≤ 60) (ht_h0_op : TN 300 2147483647 f_h0_op) : MI l g yX1_valueBy cX1_valueBy 5 (some .int) 3 0 0 [.ref h0, .ref va] [(h0, .inr (1, [.ref h0_op, .ref h0_nu, .ref h0_st, .int (nI h0_length), .int (nI h0_isTold), .int (nI h0_units)])), (h0_op, .inl (gI g, 300, .inl f_h0_op)), (h0_nu, .inl (gI g, 300, .inl f_h0_nu)), (h0_st, .inl (gI g, 32, .inl f_h0_st)), (va, .inl (gI g, 7, .inl f_va))] (fun r W' => True ∧ ∃ (z0 : Nat → Int32), W' = [(h0, .inr (1, [.ref h0_op, .ref h0_nu, .ref h0_st, .int (nI h0_length), .int (nI h0_isTold), .int (nI h0_units)])), (h0_op, .inl (gI g, 300, .inl f_h0_op)), (h0_nu, .inl (gI g, 300, .inl f_h0_nu)), (h0_st, .inl (gI g, 32, .inl z0)), (va, .inl (gI g, 7, .inl f_va))]) := by
  refine MIof (by decide) (Nat.le_of_ble_eq_true rfl) ?_
  intro p e s m below meth c A ls H locs hcx hA hP hD hS hl
  obtain ⟨hx, hb, hml, hr, hlocks, hown, hts, hE, hnm⟩ := id hcx
  have hown : s.vm.findClass RX1 = some m.cls := hown
  have hK := hE.1
  have hl : lv_has ls 5 [(0, .ref h0), (1, .ref va)] := hl
  refine lv_iconst (v := 0) hx hb dX1_valueBy_0 (by decide) ?_
  refine lv_istore_n (lv' := [(2, .int 0), (0, .ref h0), (1, .ref va)]) hx hb dX1_valueBy_1 rfl hl (by decide) rfl (fun ls hl => ?_)
  refine lv_iconst (v := 0) hx hb dX1_valueBy_2 (by decide) ?_
  refine lv_istore_n (lv' := [(3, .int 0), (2, .int 0), (0, .ref h0), (1, .ref va)]) hx hb dX1_valueBy_3 rfl hl (by decide) rfl (fun ls hl => ?_)
  have loop4 : ∀ (n k1 : Nat), k1 + n = h0_length → ∀ (H : Heap) (locs : List Loc) (ls : Array Slot) (v2 : Nat) (f3 : Nat → Int32), (v2 ≤ 32) → va_P g.1 vwCl [(h0, .inr (1, [.ref h0_op, .ref h0_nu, .ref h0_st, .int (nI h0_length), .int (nI h0_isTold), .int (nI h0_units)])), (h0_op, .inl (gI g, 300, .inl f_h0_op)), (h0_nu, .inl (gI g, 300, .inl f_h0_nu)), (h0_st, .inl (gI g, 32, .inl f3)), (va, .inl (gI g, 7, .inl f_va))] H → va_D A [(h0, .inr (1, [.ref h0_op, .ref h0_nu, .ref h0_st, .int (nI h0_length), .int (nI h0_isTold), .int (nI h0_units)])), (h0_op, .inl (gI g, 300, .inl f_h0_op)), (h0_nu, .inl (gI g, 300, .inl f_h0_nu)), (h0_st, .inl (gI g, 32, .inl f3)), (va, .inl (gI g, 7, .inl f_va))] → va_S A s.heap H locs → lv_has ls 5 [(3, .int (nI k1)), (2, .int (nI v2)), (0, .ref h0), (1, .ref va)] → W p l e (rmD 3 0 0) s m ([Value.ref h0, Value.ref va] : List Value).toArray below meth c H locs 0 0 (MQ below (QI g A (fun r W' => True ∧ ∃ (z0 : Nat → Int32), W' = [(h0, .inr (1, [.ref h0_op, .ref h0_nu, .ref h0_st, .int (nI h0_length), .int (nI h0_isTold), .int (nI h0_units)])), (h0_op, .inl (gI g, 300, .inl f_h0_op)), (h0_nu, .inl (gI g, 300, .inl f_h0_nu)), (h0_st, .inl (gI g, 32, .inl z0)), (va, .inl (gI g, 7, .inl f_va))])) ([Value.ref h0, Value.ref va] : List Value).toArray s 0 0 A) (F0 m 4 ls []) := by
    intro n
    induction n with
    | zero =>
      intro k1 hkk1 H locs ls v2 f3 hv2 hP hD hS hl
      have hNk1 : h0_length = k1 := by omega
      subst hNk1
      refine lv_iload_n hx hb dX1_valueBy_4 rfl (lv_at hl 0 rfl) ?_
      refine lv_aload_n hx hb dX1_valueBy_5 rfl (lv_at hl 2 rfl) ?_
      refine va_get (D := g.1) (ci := 1) (v := Value.int (nI h0_length)) (C := RX1) (T := TX1) (N := 6) hx hb hts inlX1 hown hK hP 0 rfl rfl 3 (by decide) (hts _ q9_21) (fun _ h9 => h9) rfl dX1_valueBy_6 ?_
      refine lv_icmp_ge (tgt := 151) hx hb dX1_valueBy_9 (by decide) (fun _ => ?_) (fun c5 => absurd (nI_le (a := h0_length) (b := h0_length) (by omega) (by omega)) c5)
      refine lv_iload_n hx hb dX1_valueBy_151 rfl (lv_at hl 1 rfl) ?_
      refine lv_if_le (tgt := 164) hx hb dX1_valueBy_152 (by decide) (fun c6 => ?_) (fun c6 => ?_)
      · have hn7 := nle (a := v2) (b := 0) (by omega) (by omega) c6
        refine lv_iconst (v := 0) hx hb dX1_valueBy_164 (by decide) ?_
        exact xi hx hb hr hlocks rfl hP hD hS ⟨trivial, f3, rfl⟩ (Nat.le_of_ble_eq_true rfl) (Nat.le_of_ble_eq_true rfl) dX1_valueBy_165
      · have hn8 := nnle (a := v2) (b := 0) (by omega) (by omega) c6
        refine lv_aload_n hx hb dX1_valueBy_155 rfl (lv_at hl 2 rfl) ?_
        refine va_get (D := g.1) (ci := 1) (v := Value.ref h0_st) (C := RX1) (T := TX1) (N := 6) hx hb hts inlX1 hown hK hP 0 rfl rfl 2 (by decide) (hts _ q6_22) (fun _ h9 => h9) rfl dX1_valueBy_156 ?_
        refine lv_iconst (v := 0) hx hb dX1_valueBy_159 (by decide) ?_
        refine ia_ld hx hb hK hP 3 1 rfl rfl (0) rfl (by decide) (by decide) dX1_valueBy_160 ?_
        refine lv_topi (fun x9 ex9 => ?_)
        refine lv_goto (tgt := 165) hx hb dX1_valueBy_161 (by decide) ?_
        exact xi hx hb hr hlocks rfl hP hD hS ⟨trivial, f3, rfl⟩ (Nat.le_of_ble_eq_true rfl) (Nat.le_of_ble_eq_true rfl) dX1_valueBy_165
    | succ n ihk1 =>
      intro k1 hkk1 H locs ls v2 f3 hv2 hP hD hS hl
      have hNk1 : k1 < h0_length := by omega
      refine lv_iload_n hx hb dX1_valueBy_4 rfl (lv_at hl 0 rfl) ?_
      refine lv_aload_n hx hb dX1_valueBy_5 rfl (lv_at hl 2 rfl) ?_
      refine va_get (D := g.1) (ci := 1) (v := Value.int (nI h0_length)) (C := RX1) (T := TX1) (N := 6) hx hb hts inlX1 hown hK hP 0 rfl rfl 3 (by decide) (hts _ q9_21) (fun _ h9 => h9) rfl dX1_valueBy_6 ?_
      refine lv_icmp_ge (tgt := 151) hx hb dX1_valueBy_9 (by decide) (fun c10 => absurd c10 (nI_ge (a := k1) (b := h0_length) (by omega) (by omega))) (fun _ => ?_)
      refine lv_aload_n hx hb dX1_valueBy_12 rfl (lv_at hl 2 rfl) ?_
      refine va_get (D := g.1) (ci := 1) (v := Value.ref h0_op) (C := RX1) (T := TX1) (N := 6) hx hb hts inlX1 hown hK hP 0 rfl rfl 0 (by decide) (hts _ q6_20) (fun _ h9 => h9) rfl dX1_valueBy_13 ?_
      refine lv_iload_n hx hb dX1_valueBy_16 rfl (lv_at hl 0 rfl) ?_
      refine ia_ld hx hb hK hP 1 1 rfl rfl (k1) rfl (by omega) (by decide) dX1_valueBy_17 ?_
      obtain ⟨m11, hm11, em11⟩ := ht_h0_op (k1) (by omega)
      refine lv_tope em11 ?_
      refine lv_istore (lv' := [(4, .int (nI m11)), (3, .int (nI k1)), (2, .int (nI v2)), (0, .ref h0), (1, .ref va)]) hx hb dX1_valueBy_18 hl (by decide) rfl (fun ls hl => ?_)
      refine lv_iload hx hb dX1_valueBy_20 (lv_at hl 0 rfl) ?_
      refine lv_bipush (v := 18) hx hb dX1_valueBy_22 (by decide) ?_
      refine lv_icmp_eq (tgt := 34) hx hb dX1_valueBy_24 (by decide) (fun c12 => ?_) (fun c12 => ?_)
      · have hn13 := neq (a := m11) (b := 18) (by omega) (by omega) c12
        refine lv_iload_n hx hb dX1_valueBy_34 rfl (lv_at hl 2 rfl) ?_
        refine lv_bipush (v := 32) hx hb dX1_valueBy_35 (by decide) ?_
        refine lv_icmp_ge (tgt := 145) hx hb dX1_valueBy_37 (by decide) (fun c14 => ?_) (fun c14 => ?_)
        · have hn15 := nle (a := 32) (b := v2) (by omega) (by omega) c14
          refine lv_iinc (v := (nI (k1 + 1))) (lv' := [(3, .int (nI (k1 + 1))), (4, .int (nI m11)), (2, .int (nI v2)), (0, .ref h0), (1, .ref va)]) hx hb dX1_valueBy_145 hl (k := 1) rfl (nI_1 _) (by decide) rfl (fun ls hl => ?_)
          refine lv_goto (tgt := 4) hx hb dX1_valueBy_148 (by decide) ?_
          exact ihk1 (k1 + 1) (by omega) H locs ls (v2) f3 (by omega) hP hD hS (lv_sub hl [0, 2, 3, 4] rfl)
        · have hn16 := nnle (a := 32) (b := v2) (by omega) (by omega) c14
          refine lv_aload_n hx hb dX1_valueBy_40 rfl (lv_at hl 3 rfl) ?_
          refine va_get (D := g.1) (ci := 1) (v := Value.ref h0_st) (C := RX1) (T := TX1) (N := 6) hx hb hts inlX1 hown hK hP 0 rfl rfl 2 (by decide) (hts _ q6_22) (fun _ h9 => h9) rfl dX1_valueBy_41 ?_
          refine lv_iload_n hx hb dX1_valueBy_44 rfl (lv_at hl 2 rfl) ?_
          refine lv_iload hx hb dX1_valueBy_45 (lv_at hl 0 rfl) ?_
          refine lv_bipush (v := 18) hx hb dX1_valueBy_47 (by decide) ?_
          refine lv_icmp_ne (tgt := 61) hx hb dX1_valueBy_49 (by decide) (fun c17 => ?_) (fun c17 => ?_)
          · have hn18 := nneq (a := m11) (b := 18) (by omega) (by omega) c17
            refine lv_aload_n hx hb dX1_valueBy_61 rfl (lv_at hl 4 rfl) ?_
            refine lv_iload hx hb dX1_valueBy_62 (lv_at hl 0 rfl) ?_
            refine ia_ld hx hb hK hP 4 1 rfl rfl (m11) rfl (by omega) (by decide) dX1_valueBy_64 ?_
            refine lv_topi (fun x19 ex19 => ?_)
            refine ia_st hx hb hK hP hD hS 3 1 rfl rfl (v2) rfl (by omega) (by decide) dX1_valueBy_65 (fun f20 H locs ef20 hP hD hS => ?_)
            have hP : va_P g.1 vwCl [(h0, .inr (1, [.ref h0_op, .ref h0_nu, .ref h0_st, .int (nI h0_length), .int (nI h0_isTold), .int (nI h0_units)])), (h0_op, .inl (gI g, 300, .inl f_h0_op)), (h0_nu, .inl (gI g, 300, .inl f_h0_nu)), (h0_st, .inl (gI g, 32, .inl f20)), (va, .inl (gI g, 7, .inl f_va))] H := hP
            have hD : va_D A [(h0, .inr (1, [.ref h0_op, .ref h0_nu, .ref h0_st, .int (nI h0_length), .int (nI h0_isTold), .int (nI h0_units)])), (h0_op, .inl (gI g, 300, .inl f_h0_op)), (h0_nu, .inl (gI g, 300, .inl f_h0_nu)), (h0_st, .inl (gI g, 32, .inl f20)), (va, .inl (gI g, 7, .inl f_va))] := hD
            refine lv_iinc (v := (nI (v2 + 1))) (lv' := [(2, .int (nI (v2 + 1))), (4, .int (nI m11)), (3, .int (nI k1)), (0, .ref h0), (1, .ref va)]) hx hb dX1_valueBy_66 hl (k := 2) rfl (nI_1 _) (by decide) rfl (fun ls hl => ?_)
            refine lv_goto (tgt := 145) hx hb dX1_valueBy_69 (by decide) ?_
            refine lv_iinc (v := (nI (k1 + 1))) (lv' := [(3, .int (nI (k1 + 1))), (2, .int (nI (v2 + 1))), (4, .int (nI m11)), (0, .ref h0), (1, .ref va)]) hx hb dX1_valueBy_145 hl (k := 2) rfl (nI_1 _) (by decide) rfl (fun ls hl => ?_)
            refine lv_goto (tgt := 4) hx hb dX1_valueBy_148 (by decide) ?_
            exact ihk1 (k1 + 1) (by omega) H locs ls (v2 + 1) f20 (by omega) hP hD hS (lv_sub hl [0, 1, 3, 4] rfl)
          · have hn21 := neq (a := m11) (b := 18) (by omega) (by omega) c17
            refine lv_aload_n hx hb dX1_valueBy_52 rfl (lv_at hl 3 rfl) ?_
            refine va_get (D := g.1) (ci := 1) (v := Value.ref h0_nu) (C := RX1) (T := TX1) (N := 6) hx hb hts inlX1 hown hK hP 0 rfl rfl 1 (by decide) (hts _ q6_21) (fun _ h9 => h9) rfl dX1_valueBy_53 ?_
            refine lv_iload_n hx hb dX1_valueBy_56 rfl (lv_at hl 1 rfl) ?_
            refine ia_ld hx hb hK hP 2 1 rfl rfl (k1) rfl (by omega) (by decide) dX1_valueBy_57 ?_
            refine lv_topi (fun x22 ex22 => ?_)
            refine lv_goto (tgt := 65) hx hb dX1_valueBy_58 (by decide) ?_
            refine ia_st hx hb hK hP hD hS 3 1 rfl rfl (v2) rfl (by omega) (by decide) dX1_valueBy_65 (fun f23 H locs ef23 hP hD hS => ?_)
            have hP : va_P g.1 vwCl [(h0, .inr (1, [.ref h0_op, .ref h0_nu, .ref h0_st, .int (nI h0_length), .int (nI h0_isTold), .int (nI h0_units)])), (h0_op, .inl (gI g, 300, .inl f_h0_op)), (h0_nu, .inl (gI g, 300, .inl f_h0_nu)), (h0_st, .inl (gI g, 32, .inl f23)), (va, .inl (gI g, 7, .inl f_va))] H := hP
            have hD : va_D A [(h0, .inr (1, [.ref h0_op, .ref h0_nu, .ref h0_st, .int (nI h0_length), .int (nI h0_isTold), .int (nI h0_units)])), (h0_op, .inl (gI g, 300, .inl f_h0_op)), (h0_nu, .inl (gI g, 300, .inl f_h0_nu)), (h0_st, .inl (gI g, 32, .inl f23)), (va, .inl (gI g, 7, .inl f_va))] := hD
            refine lv_iinc (v := (nI (v2 + 1))) (lv' := [(2, .int (nI (v2 + 1))), (4, .int (nI m11)), (3, .int (nI k1)), (0, .ref h0), (1, .ref va)]) hx hb dX1_valueBy_66 hl (k := 2) rfl (nI_1 _) (by decide) rfl (fun ls hl => ?_)
            refine lv_goto (tgt := 145) hx hb dX1_valueBy_69 (by decide) ?_
            refine lv_iinc (v := (nI (k1 + 1))) (lv' := [(3, .int (nI (k1 + 1))), (2, .int (nI (v2 + 1))), (4, .int (nI m11)), (0, .ref h0), (1, .ref va)]) hx hb dX1_valueBy_145 hl (k := 2) rfl (nI_1 _) (by decide) rfl (fun ls hl => ?_)
            refine lv_goto (tgt := 4) hx hb dX1_valueBy_148 (by decide) ?_
            exact ihk1 (k1 + 1) (by omega) H locs ls (v2 + 1) f23 (by omega) hP hD hS (lv_sub hl [0, 1, 3, 4] rfl)
      · have hn24 := nneq (a := m11) (b := 18) (by omega) (by omega) c12
        refine lv_iload hx hb dX1_valueBy_27 (lv_at hl 0 rfl) ?_
        refine lv_bipush (v := 7) hx hb dX1_valueBy_29 (by decide) ?_
        refine lv_icmp_ge (tgt := 72) hx hb dX1_valueBy_31 (by decide) (fun c25 => ?_) (fun c25 => ?_)
        · have hn26 := nle (a := 7) (b := m11) (by omega) (by omega) c25
          refine lv_iload hx hb dX1_valueBy_72 (lv_at hl 0 rfl) ?_
          refine lv_bipush (v := 17) hx hb dX1_valueBy_74 (by decide) ?_
          refine lv_icmp_ne (tgt := 110) hx hb dX1_valueBy_76 (by decide) (fun c27 => ?_) (fun c27 => ?_)
          · have hn28 := nneq (a := m11) (b := 17) (by omega) (by omega) c27
            refine lv_iload_n hx hb dX1_valueBy_110 rfl (lv_at hl 2 rfl) ?_
            refine lv_iconst (v := 1) hx hb dX1_valueBy_111 (by decide) ?_
            refine lv_icmp_le (tgt := 145) hx hb dX1_valueBy_112 (by decide) (fun c29 => ?_) (fun c29 => ?_)
            · have hn30 := nle (a := v2) (b := 1) (by omega) (by omega) c29
              refine lv_iinc (v := (nI (k1 + 1))) (lv' := [(3, .int (nI (k1 + 1))), (4, .int (nI m11)), (2, .int (nI v2)), (0, .ref h0), (1, .ref va)]) hx hb dX1_valueBy_145 hl (k := 1) rfl (nI_1 _) (by decide) rfl (fun ls hl => ?_)
              refine lv_goto (tgt := 4) hx hb dX1_valueBy_148 (by decide) ?_
              exact ihk1 (k1 + 1) (by omega) H locs ls (v2) f3 (by omega) hP hD hS (lv_sub hl [0, 2, 3, 4] rfl)
            · have hn31 := nnle (a := v2) (b := 1) (by omega) (by omega) c29
              refine lv_iinc (v := (nI ((v2) - 1))) (lv' := [(2, .int (nI ((v2) - 1))), (4, .int (nI m11)), (3, .int (nI k1)), (0, .ref h0), (1, .ref va)]) hx hb dX1_valueBy_115 hl (k := 2) rfl (nI_dec (by omega)) (by decide) rfl (fun ls hl => ?_)
              refine lv_aload_n hx hb dX1_valueBy_118 rfl (lv_at hl 3 rfl) ?_
              refine va_get (D := g.1) (ci := 1) (v := Value.ref h0_st) (C := RX1) (T := TX1) (N := 6) hx hb hts inlX1 hown hK hP 0 rfl rfl 2 (by decide) (hts _ q6_22) (fun _ h9 => h9) rfl dX1_valueBy_119 ?_
              refine lv_iload_n hx hb dX1_valueBy_122 rfl (lv_at hl 0 rfl) ?_
              refine lv_iconst (v := 1) hx hb dX1_valueBy_123 (by decide) ?_
              refine lv_isub hx hb dX1_valueBy_124 ?_
              refine lv_tope (y := (nI (((v2) - 1) - (1)))) (pk_sub (a := (v2) - 1) (b := 1) (by omega)) ?_
              refine lv_iload hx hb dX1_valueBy_125 (lv_at hl 1 rfl) ?_
              refine lv_aload_n hx hb dX1_valueBy_127 rfl (lv_at hl 3 rfl) ?_
              refine va_get (D := g.1) (ci := 1) (v := Value.ref h0_st) (C := RX1) (T := TX1) (N := 6) hx hb hts inlX1 hown hK hP 0 rfl rfl 2 (by decide) (hts _ q6_22) (fun _ h9 => h9) rfl dX1_valueBy_128 ?_
              refine lv_iload_n hx hb dX1_valueBy_131 rfl (lv_at hl 0 rfl) ?_
              refine lv_iconst (v := 1) hx hb dX1_valueBy_132 (by decide) ?_
              refine lv_isub hx hb dX1_valueBy_133 ?_
              refine lv_tope (y := (nI (((v2) - 1) - (1)))) (pk_sub (a := (v2) - 1) (b := 1) (by omega)) ?_
              refine ia_ld hx hb hK hP 3 1 rfl rfl (((v2) - 1) - (1)) rfl (by omega) (by decide) dX1_valueBy_134 ?_
              refine lv_topi (fun x32 ex32 => ?_)
              refine lv_aload_n hx hb dX1_valueBy_135 rfl (lv_at hl 3 rfl) ?_
              refine va_get (D := g.1) (ci := 1) (v := Value.ref h0_st) (C := RX1) (T := TX1) (N := 6) hx hb hts inlX1 hown hK hP 0 rfl rfl 2 (by decide) (hts _ q6_22) (fun _ h9 => h9) rfl dX1_valueBy_136 ?_
              refine lv_iload_n hx hb dX1_valueBy_139 rfl (lv_at hl 0 rfl) ?_
              refine ia_ld hx hb hK hP 3 1 rfl rfl ((v2) - 1) rfl (by omega) (by decide) dX1_valueBy_140 ?_
              refine lv_topi (fun x33 ex33 => ?_)
              refine kI (wc := []) (wr := [(h0, .inr (1, [.ref h0_op, .ref h0_nu, .ref h0_st, .int (nI h0_length), .int (nI h0_isTold), .int (nI h0_units)])), (h0_op, .inl (gI g, 300, .inl f_h0_op)), (h0_nu, .inl (gI g, 300, .inl f_h0_nu)), (h0_st, .inl (gI g, 32, .inl f3)), (va, .inl (gI g, 7, .inl f_va))]) (rS (As := [.int (nI m11), .int x32, .int x33]) (rest := [.int (nI (((v2) - 1) - (1))), .ref h0_st]) hcx (c_X1_joined H.size) (gdS q39_6 q39_7 q6_14 q39_8) dvX1_joined.2 ⟨Nat.le_of_ble_eq_true rfl, Nat.le_of_ble_eq_true rfl⟩ (hP.sub [] rfl) (hD.sub [] (by decide) rfl) rfl hl.1 rfl (Nat.le_of_ble_eq_true rfl) dX1_valueBy_141 ⟨Nat.le_of_ble_eq_true rfl, Nat.le_of_ble_eq_true rfl⟩) hP hD hS hA [] [0, 1, 2, 3, 4] rfl rfl (by decide) (by decide) (fun r34 W' H locs hw hP hD hS => ?_)
              obtain ⟨hr35, rfl⟩ := hw
              have hP : va_P g.1 vwCl [(h0, .inr (1, [.ref h0_op, .ref h0_nu, .ref h0_st, .int (nI h0_length), .int (nI h0_isTold), .int (nI h0_units)])), (h0_op, .inl (gI g, 300, .inl f_h0_op)), (h0_nu, .inl (gI g, 300, .inl f_h0_nu)), (h0_st, .inl (gI g, 32, .inl f3)), (va, .inl (gI g, 7, .inl f_va))] H := hP
              have hD : va_D A [(h0, .inr (1, [.ref h0_op, .ref h0_nu, .ref h0_st, .int (nI h0_length), .int (nI h0_isTold), .int (nI h0_units)])), (h0_op, .inl (gI g, 300, .inl f_h0_op)), (h0_nu, .inl (gI g, 300, .inl f_h0_nu)), (h0_st, .inl (gI g, 32, .inl f3)), (va, .inl (gI g, 7, .inl f_va))] := hD
              refine ia_st hx hb hK hP hD hS 3 1 rfl rfl (((v2) - 1) - (1)) rfl (by omega) (by decide) dX1_valueBy_144 (fun f36 H locs ef36 hP hD hS => ?_)
              have hP : va_P g.1 vwCl [(h0, .inr (1, [.ref h0_op, .ref h0_nu, .ref h0_st, .int (nI h0_length), .int (nI h0_isTold), .int (nI h0_units)])), (h0_op, .inl (gI g, 300, .inl f_h0_op)), (h0_nu, .inl (gI g, 300, .inl f_h0_nu)), (h0_st, .inl (gI g, 32, .inl f36)), (va, .inl (gI g, 7, .inl f_va))] H := hP
              have hD : va_D A [(h0, .inr (1, [.ref h0_op, .ref h0_nu, .ref h0_st, .int (nI h0_length), .int (nI h0_isTold), .int (nI h0_units)])), (h0_op, .inl (gI g, 300, .inl f_h0_op)), (h0_nu, .inl (gI g, 300, .inl f_h0_nu)), (h0_st, .inl (gI g, 32, .inl f36)), (va, .inl (gI g, 7, .inl f_va))] := hD
              refine lv_iinc (v := (nI (k1 + 1))) (lv' := [(3, .int (nI (k1 + 1))), (2, .int (nI ((v2) - 1))), (4, .int (nI m11)), (0, .ref h0), (1, .ref va)]) hx hb dX1_valueBy_145 hl (k := 2) rfl (nI_1 _) (by decide) rfl (fun ls hl => ?_)
              refine lv_goto (tgt := 4) hx hb dX1_valueBy_148 (by decide) ?_
              exact ihk1 (k1 + 1) (by omega) H locs ls ((v2) - 1) f36 (by omega) hP hD hS (lv_sub hl [0, 1, 3, 4] rfl)
          · have hn37 := neq (a := m11) (b := 17) (by omega) (by omega) c27
            refine lv_iload_n hx hb dX1_valueBy_79 rfl (lv_at hl 2 rfl) ?_
            refine lv_if_le (tgt := 145) hx hb dX1_valueBy_80 (by decide) (fun c38 => ?_) (fun c38 => ?_)
            · have hn39 := nle (a := v2) (b := 0) (by omega) (by omega) c38
              refine lv_iinc (v := (nI (k1 + 1))) (lv' := [(3, .int (nI (k1 + 1))), (4, .int (nI m11)), (2, .int (nI v2)), (0, .ref h0), (1, .ref va)]) hx hb dX1_valueBy_145 hl (k := 1) rfl (nI_1 _) (by decide) rfl (fun ls hl => ?_)
              refine lv_goto (tgt := 4) hx hb dX1_valueBy_148 (by decide) ?_
              exact ihk1 (k1 + 1) (by omega) H locs ls (v2) f3 (by omega) hP hD hS (lv_sub hl [0, 2, 3, 4] rfl)
            · have hn40 := nnle (a := v2) (b := 0) (by omega) (by omega) c38
              refine lv_aload_n hx hb dX1_valueBy_83 rfl (lv_at hl 3 rfl) ?_
              refine va_get (D := g.1) (ci := 1) (v := Value.ref h0_st) (C := RX1) (T := TX1) (N := 6) hx hb hts inlX1 hown hK hP 0 rfl rfl 2 (by decide) (hts _ q6_22) (fun _ h9 => h9) rfl dX1_valueBy_84 ?_
              refine lv_iload_n hx hb dX1_valueBy_87 rfl (lv_at hl 2 rfl) ?_
              refine lv_iconst (v := 1) hx hb dX1_valueBy_88 (by decide) ?_
              refine lv_isub hx hb dX1_valueBy_89 ?_
              refine lv_tope (y := (nI ((v2) - (1)))) (pk_sub (a := v2) (b := 1) (by omega)) ?_
              refine lv_aload_n hx hb dX1_valueBy_90 rfl (lv_at hl 3 rfl) ?_
              refine va_get (D := g.1) (ci := 1) (v := Value.ref h0_st) (C := RX1) (T := TX1) (N := 6) hx hb hts inlX1 hown hK hP 0 rfl rfl 2 (by decide) (hts _ q6_22) (fun _ h9 => h9) rfl dX1_valueBy_91 ?_
              refine lv_iload_n hx hb dX1_valueBy_94 rfl (lv_at hl 2 rfl) ?_
              refine lv_iconst (v := 1) hx hb dX1_valueBy_95 (by decide) ?_
              refine lv_isub hx hb dX1_valueBy_96 ?_
              refine lv_tope (y := (nI ((v2) - (1)))) (pk_sub (a := v2) (b := 1) (by omega)) ?_
              refine ia_ld hx hb hK hP 3 1 rfl rfl ((v2) - (1)) rfl (by omega) (by decide) dX1_valueBy_97 ?_
              refine lv_topi (fun x41 ex41 => ?_)
              refine lv_if_ne (tgt := 105) hx hb dX1_valueBy_98 (by decide) (fun c42 => ?_) (fun c42 => ?_)
              · refine lv_iconst (v := 0) hx hb dX1_valueBy_105 (by decide) ?_
                refine ia_st hx hb hK hP hD hS 3 1 rfl rfl ((v2) - (1)) rfl (by omega) (by decide) dX1_valueBy_106 (fun f43 H locs ef43 hP hD hS => ?_)
                have hP : va_P g.1 vwCl [(h0, .inr (1, [.ref h0_op, .ref h0_nu, .ref h0_st, .int (nI h0_length), .int (nI h0_isTold), .int (nI h0_units)])), (h0_op, .inl (gI g, 300, .inl f_h0_op)), (h0_nu, .inl (gI g, 300, .inl f_h0_nu)), (h0_st, .inl (gI g, 32, .inl f43)), (va, .inl (gI g, 7, .inl f_va))] H := hP
                have hD : va_D A [(h0, .inr (1, [.ref h0_op, .ref h0_nu, .ref h0_st, .int (nI h0_length), .int (nI h0_isTold), .int (nI h0_units)])), (h0_op, .inl (gI g, 300, .inl f_h0_op)), (h0_nu, .inl (gI g, 300, .inl f_h0_nu)), (h0_st, .inl (gI g, 32, .inl f43)), (va, .inl (gI g, 7, .inl f_va))] := hD
                refine lv_goto (tgt := 145) hx hb dX1_valueBy_107 (by decide) ?_
                refine lv_iinc (v := (nI (k1 + 1))) (lv' := [(3, .int (nI (k1 + 1))), (4, .int (nI m11)), (2, .int (nI v2)), (0, .ref h0), (1, .ref va)]) hx hb dX1_valueBy_145 hl (k := 1) rfl (nI_1 _) (by decide) rfl (fun ls hl => ?_)
                refine lv_goto (tgt := 4) hx hb dX1_valueBy_148 (by decide) ?_
                exact ihk1 (k1 + 1) (by omega) H locs ls (v2) f43 (by omega) hP hD hS (lv_sub hl [0, 2, 3, 4] rfl)
              · refine lv_iconst (v := 1) hx hb dX1_valueBy_101 (by decide) ?_
                refine lv_goto (tgt := 106) hx hb dX1_valueBy_102 (by decide) ?_
                refine ia_st hx hb hK hP hD hS 3 1 rfl rfl ((v2) - (1)) rfl (by omega) (by decide) dX1_valueBy_106 (fun f44 H locs ef44 hP hD hS => ?_)
                have hP : va_P g.1 vwCl [(h0, .inr (1, [.ref h0_op, .ref h0_nu, .ref h0_st, .int (nI h0_length), .int (nI h0_isTold), .int (nI h0_units)])), (h0_op, .inl (gI g, 300, .inl f_h0_op)), (h0_nu, .inl (gI g, 300, .inl f_h0_nu)), (h0_st, .inl (gI g, 32, .inl f44)), (va, .inl (gI g, 7, .inl f_va))] H := hP
                have hD : va_D A [(h0, .inr (1, [.ref h0_op, .ref h0_nu, .ref h0_st, .int (nI h0_length), .int (nI h0_isTold), .int (nI h0_units)])), (h0_op, .inl (gI g, 300, .inl f_h0_op)), (h0_nu, .inl (gI g, 300, .inl f_h0_nu)), (h0_st, .inl (gI g, 32, .inl f44)), (va, .inl (gI g, 7, .inl f_va))] := hD
                refine lv_goto (tgt := 145) hx hb dX1_valueBy_107 (by decide) ?_
                refine lv_iinc (v := (nI (k1 + 1))) (lv' := [(3, .int (nI (k1 + 1))), (4, .int (nI m11)), (2, .int (nI v2)), (0, .ref h0), (1, .ref va)]) hx hb dX1_valueBy_145 hl (k := 1) rfl (nI_1 _) (by decide) rfl (fun ls hl => ?_)
                refine lv_goto (tgt := 4) hx hb dX1_valueBy_148 (by decide) ?_
                exact ihk1 (k1 + 1) (by omega) H locs ls (v2) f44 (by omega) hP hD hS (lv_sub hl [0, 2, 3, 4] rfl)
        · have hn45 := nnle (a := 7) (b := m11) (by omega) (by omega) c25
          refine lv_iload_n hx hb dX1_valueBy_34 rfl (lv_at hl 2 rfl) ?_
          refine lv_bipush (v := 32) hx hb dX1_valueBy_35 (by decide) ?_
          refine lv_icmp_ge (tgt := 145) hx hb dX1_valueBy_37 (by decide) (fun c46 => ?_) (fun c46 => ?_)
          · have hn47 := nle (a := 32) (b := v2) (by omega) (by omega) c46
            refine lv_iinc (v := (nI (k1 + 1))) (lv' := [(3, .int (nI (k1 + 1))), (4, .int (nI m11)), (2, .int (nI v2)), (0, .ref h0), (1, .ref va)]) hx hb dX1_valueBy_145 hl (k := 1) rfl (nI_1 _) (by decide) rfl (fun ls hl => ?_)
            refine lv_goto (tgt := 4) hx hb dX1_valueBy_148 (by decide) ?_
            exact ihk1 (k1 + 1) (by omega) H locs ls (v2) f3 (by omega) hP hD hS (lv_sub hl [0, 2, 3, 4] rfl)
          · have hn48 := nnle (a := 32) (b := v2) (by omega) (by omega) c46
            refine lv_aload_n hx hb dX1_valueBy_40 rfl (lv_at hl 3 rfl) ?_
            refine va_get (D := g.1) (ci := 1) (v := Value.ref h0_st) (C := RX1) (T := TX1) (N := 6) hx hb hts inlX1 hown hK hP 0 rfl rfl 2 (by decide) (hts _ q6_22) (fun _ h9 => h9) rfl dX1_valueBy_41 ?_
            refine lv_iload_n hx hb dX1_valueBy_44 rfl (lv_at hl 2 rfl) ?_
            refine lv_iload hx hb dX1_valueBy_45 (lv_at hl 0 rfl) ?_
            refine lv_bipush (v := 18) hx hb dX1_valueBy_47 (by decide) ?_
            refine lv_icmp_ne (tgt := 61) hx hb dX1_valueBy_49 (by decide) (fun _ => ?_) (fun c49 => absurd c49 (fun h => absurd (neq (a := m11) (b := 18) (by omega) (by omega) h) (by omega)))
            refine lv_aload_n hx hb dX1_valueBy_61 rfl (lv_at hl 4 rfl) ?_
            refine lv_iload hx hb dX1_valueBy_62 (lv_at hl 0 rfl) ?_
            refine ia_ld hx hb hK hP 4 1 rfl rfl (m11) rfl (by omega) (by decide) dX1_valueBy_64 ?_
            refine lv_topi (fun x50 ex50 => ?_)
            refine ia_st hx hb hK hP hD hS 3 1 rfl rfl (v2) rfl (by omega) (by decide) dX1_valueBy_65 (fun f51 H locs ef51 hP hD hS => ?_)
            have hP : va_P g.1 vwCl [(h0, .inr (1, [.ref h0_op, .ref h0_nu, .ref h0_st, .int (nI h0_length), .int (nI h0_isTold), .int (nI h0_units)])), (h0_op, .inl (gI g, 300, .inl f_h0_op)), (h0_nu, .inl (gI g, 300, .inl f_h0_nu)), (h0_st, .inl (gI g, 32, .inl f51)), (va, .inl (gI g, 7, .inl f_va))] H := hP
            have hD : va_D A [(h0, .inr (1, [.ref h0_op, .ref h0_nu, .ref h0_st, .int (nI h0_length), .int (nI h0_isTold), .int (nI h0_units)])), (h0_op, .inl (gI g, 300, .inl f_h0_op)), (h0_nu, .inl (gI g, 300, .inl f_h0_nu)), (h0_st, .inl (gI g, 32, .inl f51)), (va, .inl (gI g, 7, .inl f_va))] := hD
            refine lv_iinc (v := (nI (v2 + 1))) (lv' := [(2, .int (nI (v2 + 1))), (4, .int (nI m11)), (3, .int (nI k1)), (0, .ref h0), (1, .ref va)]) hx hb dX1_valueBy_66 hl (k := 2) rfl (nI_1 _) (by decide) rfl (fun ls hl => ?_)
            refine lv_goto (tgt := 145) hx hb dX1_valueBy_69 (by decide) ?_
            refine lv_iinc (v := (nI (k1 + 1))) (lv' := [(3, .int (nI (k1 + 1))), (2, .int (nI (v2 + 1))), (4, .int (nI m11)), (0, .ref h0), (1, .ref va)]) hx hb dX1_valueBy_145 hl (k := 2) rfl (nI_1 _) (by decide) rfl (fun ls hl => ?_)
            refine lv_goto (tgt := 4) hx hb dX1_valueBy_148 (by decide) ?_
            exact ihk1 (k1 + 1) (by omega) H locs ls (v2 + 1) f51 (by omega) hP hD hS (lv_sub hl [0, 1, 3, 4] rfl)
  exact loop4 (h0_length - (0)) (0) (by omega) H locs ls (0) f_h0_st (by omega) hP hD hS hl

set_option maxHeartbeats 4000000 in
set_option maxRecDepth 100000 in
theorem c_X1_add {l : Launch} {g : Gx} {h0 h0_op h0_nu h0_st : Nat} {h0_length : Nat} {h0_isTold : Nat} {h0_units : Nat} {f_h0_op : Nat → Int32} {f_h0_nu : Nat → Int32} {f_h0_st : Nat → Int32} {p0 : Nat} {p1 : Int32} (hb_h0_length : h0_length ≤ 300) (hb_h0_isTold : h0_isTold ≤ 1) (hb_h0_units : h0_units ≤ 60) (ht_h0_op : TN 300 2147483647 f_h0_op) (hb_p0 : p0 ≤ 2147483647) : MV l g yX1_add cX1_add 3 2 0 0 [.ref h0, .int (nI p0), .int p1] [(h0, .inr (1, [.ref h0_op, .ref h0_nu, .ref h0_st, .int (nI h0_length), .int (nI h0_isTold), .int (nI h0_units)])), (h0_op, .inl (gI g, 300, .inl f_h0_op)), (h0_nu, .inl (gI g, 300, .inl f_h0_nu)), (h0_st, .inl (gI g, 32, .inl f_h0_st))] (fun W' => ∃ (z0 : Nat) (z1 : Nat → Int32) (z2 : Nat → Int32), W' = [(h0, .inr (1, [.ref h0_op, .ref h0_nu, .ref h0_st, .int (nI z0), .int (nI h0_isTold), .int (nI h0_units)])), (h0_op, .inl (gI g, 300, .inl z1)), (h0_nu, .inl (gI g, 300, .inl z2)), (h0_st, .inl (gI g, 32, .inl f_h0_st))] ∧ z0 ≤ 300 ∧ TN 300 2147483647 z1) := by
  refine MVof (by decide) (Nat.le_of_ble_eq_true rfl) ?_
  intro p e s m below meth c A ls H locs hcx hA hP hD hS hl
  obtain ⟨hx, hb, hml, hr, hlocks, hown, hts, hE, hnm⟩ := id hcx
  have hown : s.vm.findClass RX1 = some m.cls := hown
  have hK := hE.1
  have hl : lv_has ls 3 [(0, .ref h0), (1, .int (nI p0)), (2, .int p1)] := hl
  refine lv_aload_n hx hb dX1_add_0 rfl (lv_at hl 0 rfl) ?_
  refine va_get (D := g.1) (ci := 1) (v := Value.int (nI h0_length)) (C := RX1) (T := TX1) (N := 6) hx hb hts inlX1 hown hK hP 0 rfl rfl 3 (by decide) (hts _ q9_21) (fun _ h9 => h9) rfl dX1_add_1 ?_
  refine lv_sipush (v := 300) hx hb dX1_add_4 (by decide) ?_
  refine lv_icmp_ge (tgt := 40) hx hb dX1_add_7 (by decide) (fun c1 => ?_) (fun c1 => ?_)
  · have hn2 := nle (a := 300) (b := h0_length) (by omega) (by omega) c1
    exact xv hx hb hr hlocks hP hD hS ⟨(h0_length), f_h0_op, f_h0_nu, rfl, (by omega), ht_h0_op⟩ (Nat.le_of_ble_eq_true rfl) (Nat.le_of_ble_eq_true rfl) dX1_add_40
  · have hn3 := nnle (a := 300) (b := h0_length) (by omega) (by omega) c1
    refine lv_aload_n hx hb dX1_add_10 rfl (lv_at hl 0 rfl) ?_
    refine va_get (D := g.1) (ci := 1) (v := Value.ref h0_op) (C := RX1) (T := TX1) (N := 6) hx hb hts inlX1 hown hK hP 0 rfl rfl 0 (by decide) (hts _ q6_20) (fun _ h9 => h9) rfl dX1_add_11 ?_
    refine lv_aload_n hx hb dX1_add_14 rfl (lv_at hl 0 rfl) ?_
    refine va_get (D := g.1) (ci := 1) (v := Value.int (nI h0_length)) (C := RX1) (T := TX1) (N := 6) hx hb hts inlX1 hown hK hP 0 rfl rfl 3 (by decide) (hts _ q9_21) (fun _ h9 => h9) rfl dX1_add_15 ?_
    refine lv_iload_n hx hb dX1_add_18 rfl (lv_at hl 1 rfl) ?_
    refine ia_st hx hb hK hP hD hS 1 1 rfl rfl (h0_length) rfl (by omega) (by decide) dX1_add_19 (fun f4 H locs ef4 hP hD hS => ?_)
    have htf4 : TN 300 2147483647 f4 := by rw [ef4]; exact TN_upd (m := p0) ht_h0_op (by omega)
    have hP : va_P g.1 vwCl [(h0, .inr (1, [.ref h0_op, .ref h0_nu, .ref h0_st, .int (nI h0_length), .int (nI h0_isTold), .int (nI h0_units)])), (h0_op, .inl (gI g, 300, .inl f4)), (h0_nu, .inl (gI g, 300, .inl f_h0_nu)), (h0_st, .inl (gI g, 32, .inl f_h0_st))] H := hP
    have hD : va_D A [(h0, .inr (1, [.ref h0_op, .ref h0_nu, .ref h0_st, .int (nI h0_length), .int (nI h0_isTold), .int (nI h0_units)])), (h0_op, .inl (gI g, 300, .inl f4)), (h0_nu, .inl (gI g, 300, .inl f_h0_nu)), (h0_st, .inl (gI g, 32, .inl f_h0_st))] := hD
    refine lv_aload_n hx hb dX1_add_20 rfl (lv_at hl 0 rfl) ?_
    refine va_get (D := g.1) (ci := 1) (v := Value.ref h0_nu) (C := RX1) (T := TX1) (N := 6) hx hb hts inlX1 hown hK hP 0 rfl rfl 1 (by decide) (hts _ q6_21) (fun _ h9 => h9) rfl dX1_add_21 ?_
    refine lv_aload_n hx hb dX1_add_24 rfl (lv_at hl 0 rfl) ?_
    refine va_get (D := g.1) (ci := 1) (v := Value.int (nI h0_length)) (C := RX1) (T := TX1) (N := 6) hx hb hts inlX1 hown hK hP 0 rfl rfl 3 (by decide) (hts _ q9_21) (fun _ h9 => h9) rfl dX1_add_25 ?_
    refine lv_iload_n hx hb dX1_add_28 rfl (lv_at hl 2 rfl) ?_
    refine ia_st hx hb hK hP hD hS 2 1 rfl rfl (h0_length) rfl (by omega) (by decide) dX1_add_29 (fun f5 H locs ef5 hP hD hS => ?_)
    have hP : va_P g.1 vwCl [(h0, .inr (1, [.ref h0_op, .ref h0_nu, .ref h0_st, .int (nI h0_length), .int (nI h0_isTold), .int (nI h0_units)])), (h0_op, .inl (gI g, 300, .inl f4)), (h0_nu, .inl (gI g, 300, .inl f5)), (h0_st, .inl (gI g, 32, .inl f_h0_st))] H := hP
    have hD : va_D A [(h0, .inr (1, [.ref h0_op, .ref h0_nu, .ref h0_st, .int (nI h0_length), .int (nI h0_isTold), .int (nI h0_units)])), (h0_op, .inl (gI g, 300, .inl f4)), (h0_nu, .inl (gI g, 300, .inl f5)), (h0_st, .inl (gI g, 32, .inl f_h0_st))] := hD
    refine lv_aload_n hx hb dX1_add_30 rfl (lv_at hl 0 rfl) ?_
    refine lv_dup hx hb dX1_add_31 rfl ?_
    refine va_get (D := g.1) (ci := 1) (v := Value.int (nI h0_length)) (C := RX1) (T := TX1) (N := 6) hx hb hts inlX1 hown hK hP 0 rfl rfl 3 (by decide) (hts _ q9_21) (fun _ h9 => h9) rfl dX1_add_32 ?_
    refine lv_iconst (v := 1) hx hb dX1_add_35 (by decide) ?_
    refine lv_iadd hx hb dX1_add_36 ?_
    refine lv_tope (y := (nI (h0_length + 1))) (nI_add (h0_length) (1)) ?_
    refine va_put (D := g.1) (ci := 1) (v := Value.int (nI (h0_length + 1))) (ty := .int) (C := RX1) (T := TX1) (N := 6) hx hb hts inlX1 tyX1 tyX1_ok nmX1 hown hK hP hD hS 0 rfl rfl 3 (by decide) (hts _ q9_21) (fun _ h9 => h9) rfl (by decide +kernel) rfl rfl (Nat.le_of_ble_eq_true rfl) dX1_add_37 (fun H locs hP hD hS => ?_)
    have hP : va_P g.1 vwCl [(h0, .inr (1, [.ref h0_op, .ref h0_nu, .ref h0_st, .int (nI (h0_length + 1)), .int (nI h0_isTold), .int (nI h0_units)])), (h0_op, .inl (gI g, 300, .inl f4)), (h0_nu, .inl (gI g, 300, .inl f5)), (h0_st, .inl (gI g, 32, .inl f_h0_st))] H := hP
    have hD : va_D A [(h0, .inr (1, [.ref h0_op, .ref h0_nu, .ref h0_st, .int (nI (h0_length + 1)), .int (nI h0_isTold), .int (nI h0_units)])), (h0_op, .inl (gI g, 300, .inl f4)), (h0_nu, .inl (gI g, 300, .inl f5)), (h0_st, .inl (gI g, 32, .inl f_h0_st))] := hD
    exact xv hx hb hr hlocks hP hD hS ⟨(h0_length + 1), f4, f5, rfl, (by omega), htf4⟩ (Nat.le_of_ble_eq_true rfl) (Nat.le_of_ble_eq_true rfl) dX1_add_40

set_option maxHeartbeats 4000000 in
set_option maxRecDepth 100000 in
theorem c_X1_clear {l : Launch} {g : Gx} {h0 : Nat} {h0_operations : Value} {h0_numbers : Value} {h0_stack : Value} {h0_length : Nat} {h0_isTold : Nat} {h0_units : Nat} (hb_h0_length : h0_length ≤ 300) (hb_h0_isTold : h0_isTold ≤ 1) (hb_h0_units : h0_units ≤ 60) : MV l g yX1_clear cX1_clear 1 2 0 0 [.ref h0] [(h0, .inr (1, [h0_operations, h0_numbers, h0_stack, .int (nI h0_length), .int (nI h0_isTold), .int (nI h0_units)]))] (fun W' => W' = [(h0, .inr (1, [h0_operations, h0_numbers, h0_stack, .int 0, .int 0, .int 0]))]) := by
  refine MVof (by decide) (Nat.le_of_ble_eq_true rfl) ?_
  intro p e s m below meth c A ls H locs hcx hA hP hD hS hl
  obtain ⟨hx, hb, hml, hr, hlocks, hown, hts, hE, hnm⟩ := id hcx
  have hown : s.vm.findClass RX1 = some m.cls := hown
  have hK := hE.1
  have hl : lv_has ls 1 [(0, .ref h0)] := hl
  refine lv_aload_n hx hb dX1_clear_0 rfl (lv_at hl 0 rfl) ?_
  refine lv_iconst (v := 0) hx hb dX1_clear_1 (by decide) ?_
  refine va_put (D := g.1) (ci := 1) (v := Value.int 0) (ty := .int) (C := RX1) (T := TX1) (N := 6) hx hb hts inlX1 tyX1 tyX1_ok nmX1 hown hK hP hD hS 0 rfl rfl 3 (by decide) (hts _ q9_21) (fun _ h9 => h9) rfl (by decide +kernel) rfl rfl (Nat.le_of_ble_eq_true rfl) dX1_clear_2 (fun H locs hP hD hS => ?_)
  have hP : va_P g.1 vwCl [(h0, .inr (1, [h0_operations, h0_numbers, h0_stack, .int 0, .int (nI h0_isTold), .int (nI h0_units)]))] H := hP
  have hD : va_D A [(h0, .inr (1, [h0_operations, h0_numbers, h0_stack, .int 0, .int (nI h0_isTold), .int (nI h0_units)]))] := hD
  refine lv_aload_n hx hb dX1_clear_5 rfl (lv_at hl 0 rfl) ?_
  refine lv_iconst (v := 0) hx hb dX1_clear_6 (by decide) ?_
  refine va_put (D := g.1) (ci := 1) (v := Value.int 0) (ty := .int) (C := RX1) (T := TX1) (N := 6) hx hb hts inlX1 tyX1 tyX1_ok nmX1 hown hK hP hD hS 0 rfl rfl 5 (by decide) (hts _ q9_22) (fun _ h9 => h9) rfl (by decide +kernel) rfl rfl (Nat.le_of_ble_eq_true rfl) dX1_clear_7 (fun H locs hP hD hS => ?_)
  have hP : va_P g.1 vwCl [(h0, .inr (1, [h0_operations, h0_numbers, h0_stack, .int 0, .int (nI h0_isTold), .int 0]))] H := hP
  have hD : va_D A [(h0, .inr (1, [h0_operations, h0_numbers, h0_stack, .int 0, .int (nI h0_isTold), .int 0]))] := hD
  refine lv_aload_n hx hb dX1_clear_10 rfl (lv_at hl 0 rfl) ?_
  refine lv_iconst (v := 0) hx hb dX1_clear_11 (by decide) ?_
  refine va_put (D := g.1) (ci := 1) (v := Value.int 0) (ty := .boolean) (C := RX1) (T := TX1) (N := 6) hx hb hts inlX1 tyX1 tyX1_ok nmX1 hown hK hP hD hS 0 rfl rfl 4 (by decide) (hts _ q9_23) (fun _ h9 => h9) rfl (by decide +kernel) rfl rfl (Nat.le_of_ble_eq_true rfl) dX1_clear_12 (fun H locs hP hD hS => ?_)
  have hP : va_P g.1 vwCl [(h0, .inr (1, [h0_operations, h0_numbers, h0_stack, .int 0, .int 0, .int 0]))] H := hP
  have hD : va_D A [(h0, .inr (1, [h0_operations, h0_numbers, h0_stack, .int 0, .int 0, .int 0]))] := hD
  exact xv hx hb hr hlocks hP hD hS rfl (Nat.le_of_ble_eq_true rfl) (Nat.le_of_ble_eq_true rfl) dX1_clear_15
