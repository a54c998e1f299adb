theorem law_toInt {a : Nat} (ha : a < 2 ^ 31) : (nI a).toInt = (a : Int) := nI_toInt ha
theorem law_sub {L : Nat} (hL : L ≤ 3072) : (Int32.ofNat L - 6).toInt = (L : Int) - 6 := by
  rw [Int32.toInt_sub]
  have e : (Int32.ofNat L).toInt = (L : Int) := nI_toInt (n := L) (by omega)
  have e6 : (6 : Int32).toInt = 6 := by decide
  rw [e, e6]
  exact Int.bmod_eq_of_le (by omega) (by omega)
theorem law_le {i L : Nat} (h : i + 6 ≤ L) (hL : L ≤ 3072) : ¬ Int32.ofNat L - 6 < nI i := by
  rw [Int32.lt_iff_toInt_lt, law_sub hL, law_toInt (by omega)]
  omega
theorem law_gt {i L : Nat} (h : ¬ i + 6 ≤ L) (hL : L ≤ 3072) (hi : i ≤ 3078) : Int32.ofNat L - 6 < nI i := by
  rw [Int32.lt_iff_toInt_lt, law_sub hL, law_toInt (by omega)]
  omega
set_option maxHeartbeats 40000000 in
set_option maxRecDepth 100000 in
theorem law_loop {p : Program} {l : Launch} {e : Env} {s : State} {m : MethodId} {below : List Frame} {meth : Method} {c : Code} {g : Gx} {b L : Nat} {xs : Nat → Int32} {A : Nat → Prop} {nc ns : Nat} {z : Sg} {k_h0 k_rd k_tk k_tp k_sp k_dr k_dr_winds k_dr_lees k_dr_gustChances k_dr_gusts k_dr_cloths k_dr_trues k_dr_strengths k_dr_reefs k_dr_cornerNames k_dr_guildNames k_dr_pu k_dr_pu_op k_dr_pu_nu k_dr_pu_st k_dr_ho k_dr_ho_op k_dr_ho_nu k_dr_ho_st k_to k_to_winds k_to_lees k_to_gustChances k_to_gusts k_to_cloths k_to_trues k_to_strengths k_to_reefs k_to_pu k_to_pu_op k_to_pu_nu k_to_pu_st k_to_ho k_to_ho_op k_to_ho_nu k_to_ho_st k_no k_no_or k_no_re k_no_ch k_no_ho k_no_gu k_co k_va k_ou k_tr k_tr_or k_tr_re k_tr_ch k_tr_ho k_tr_gu k_ra k_or_ k_su k_ah k_td k_be k_hi k_sa k_ly k_nu k_si k_s_corners k_s_guilds k_s_wasUp k_s_toldAt k_s_untoldAt k_s_untold k_s_upBehind k_s_fitting k_s_groups k_t2 k_t2_or k_t2_re k_t2_ch k_t2_ho k_t2_gu k_bx k_bf r_h0 r_m_tape r_m_text r_m_corners r_m_guilds r_m_gusts r_m_units r_m_draw r_m_told r_m_wind r_m_lee r_m_gust r_m_blow r_m_cloth r_m_truth r_m_strong r_m_reefTold r_m_ruleFrom r_m_ruleTo r_m_cName r_m_gName r_m_code r_m_codeNumber r_m_eWhat r_m_eSign r_m_pile r_m_all r_m_was r_m_kept r_m_laidRow r_m_fell r_m_good r_m_least r_m_with r_m_upBy r_m_sCorners r_m_sGuild r_m_sIs r_m_sTold r_m_sUntold r_m_parts r_m_boxAll r_m_isBoxed : Nat} (hnc : nc ≤ 10000) (hns : ns ≤ 1000000) (hcx : Cx p s m #[Value.ref b] meth c cL_law 4 ret RL meth.name g) (hF : SEg z A s s.heap) (hX : va_X b L xs s s.heap) (hL : L ≤ 3072) (hbl : b < s.heap.size) (hbA : ¬ A b) (hA : ∀ q : Nat, s.heap.size ≤ q → A q) (hAl : ∀ q : Nat, A q → s.heap.size ≤ q) : ∀ (n i : Nat) (H : Heap) (locs : List Loc) (ls : Array Slot) (t : Int32) (WC WR : va_W), i ≤ 3078 → 4000 - i < n → CI g k_h0 k_rd k_tk k_tp k_sp k_dr k_dr_winds k_dr_lees k_dr_gustChances k_dr_gusts k_dr_cloths k_dr_trues k_dr_strengths k_dr_reefs k_dr_cornerNames k_dr_guildNames k_dr_pu k_dr_pu_op k_dr_pu_nu k_dr_pu_st k_dr_ho k_dr_ho_op k_dr_ho_nu k_dr_ho_st k_to k_to_winds k_to_lees k_to_gustChances k_to_gusts k_to_cloths k_to_trues k_to_strengths k_to_reefs k_to_pu k_to_pu_op k_to_pu_nu k_to_pu_st k_to_ho k_to_ho_op k_to_ho_nu k_to_ho_st k_no k_no_or k_no_re k_no_ch k_no_ho k_no_gu k_co k_va k_ou k_tr k_tr_or k_tr_re k_tr_ch k_tr_ho k_tr_gu k_ra k_or_ k_su k_ah k_td k_be k_hi k_sa k_ly k_nu k_si k_s_corners k_s_guilds k_s_wasUp k_s_toldAt k_s_untoldAt k_s_untold k_s_upBehind k_s_fitting k_s_groups k_t2 k_t2_or k_t2_re k_t2_ch k_t2_ho k_t2_gu k_bx k_bf t WC → RI g r_h0 r_m_tape r_m_text r_m_corners r_m_guilds r_m_gusts r_m_units r_m_draw r_m_told r_m_wind r_m_lee r_m_gust r_m_blow r_m_cloth r_m_truth r_m_strong r_m_reefTold r_m_ruleFrom r_m_ruleTo r_m_cName r_m_gName r_m_code r_m_codeNumber r_m_eWhat r_m_eSign r_m_pile r_m_all r_m_was r_m_kept r_m_laidRow r_m_fell r_m_good r_m_least r_m_with r_m_upBy r_m_sCorners r_m_sGuild r_m_sIs r_m_sTold r_m_sUntold r_m_parts r_m_boxAll r_m_isBoxed t WR → va_P g.1 vwCl (WC ++ WR) H → va_D A (WC ++ WR) → va_S A s.heap H locs → lv_has ls 4 [(3, .int (nI i)), (2, .ref r_h0), (1, .ref k_h0), (0, .ref b)] → W p l e room_1 s m #[Value.ref b] below meth c H locs nc ns (lw_Z below #[Value.ref b] s) (F0 m 18 ls []) := by
  obtain ⟨hx, hb, hml, hr, hlocks, hown, hts, hE, hnm⟩ := id hcx
  intro n
  induction n with
  | zero => intro i H locs ls t WC WR hi hm; exact absurd hm (Nat.not_lt_zero _)
  | succ n ih =>
    intro i H locs ls t WC WR hi hm hCI hRI hP hD hS hl
    refine lv_iload_n hx hb dL_law_18 rfl (lv_at hl 0 rfl) ?_
    refine lv_aload_n hx hb dL_law_19 rfl (lv_at hl 3 rfl) ?_
    refine va_slen hx hb hX hbl hbA hS dL_law_20 ?_
    refine lv_bipush (v := 6) hx hb dL_law_21 (by decide) ?_
    refine lv_isub hx hb dL_law_23 ?_
    by_cases hiL : i + 6 ≤ L
    · refine lv_icmp_gt (tgt := 1284) hx hb dL_law_24 (by decide) (fun c1 => absurd c1 (law_le hiL hL)) (fun _ => ?_)
      have kk : ∀ (H : Heap) (locs : List Loc) (ls : Array Slot) (t : Int32) (WC WR : va_W), CI g k_h0 k_rd k_tk k_tp k_sp k_dr k_dr_winds k_dr_lees k_dr_gustChances k_dr_gusts k_dr_cloths k_dr_trues k_dr_strengths k_dr_reefs k_dr_cornerNames k_dr_guildNames k_dr_pu k_dr_pu_op k_dr_pu_nu k_dr_pu_st k_dr_ho k_dr_ho_op k_dr_ho_nu k_dr_ho_st k_to k_to_winds k_to_lees k_to_gustChances k_to_gusts k_to_cloths k_to_trues k_to_strengths k_to_reefs k_to_pu k_to_pu_op k_to_pu_nu k_to_pu_st k_to_ho k_to_ho_op k_to_ho_nu k_to_ho_st k_no k_no_or k_no_re k_no_ch k_no_ho k_no_gu k_co k_va k_ou k_tr k_tr_or k_tr_re k_tr_ch k_tr_ho k_tr_gu k_ra k_or_ k_su k_ah k_td k_be k_hi k_sa k_ly k_nu k_si k_s_corners k_s_guilds k_s_wasUp k_s_toldAt k_s_untoldAt k_s_untold k_s_upBehind k_s_fitting k_s_groups k_t2 k_t2_or k_t2_re k_t2_ch k_t2_ho k_t2_gu k_bx k_bf t WC → RI g r_h0 r_m_tape r_m_text r_m_corners r_m_guilds r_m_gusts r_m_units r_m_draw r_m_told r_m_wind r_m_lee r_m_gust r_m_blow r_m_cloth r_m_truth r_m_strong r_m_reefTold r_m_ruleFrom r_m_ruleTo r_m_cName r_m_gName r_m_code r_m_codeNumber r_m_eWhat r_m_eSign r_m_pile r_m_all r_m_was r_m_kept r_m_laidRow r_m_fell r_m_good r_m_least r_m_with r_m_upBy r_m_sCorners r_m_sGuild r_m_sIs r_m_sTold r_m_sUntold r_m_parts r_m_boxAll r_m_isBoxed t WR → va_P g.1 vwCl (WC ++ WR) H → va_D A (WC ++ WR) → va_S A s.heap H locs → lv_has ls 4 [(3, .int (nI i)), (2, .ref r_h0), (1, .ref k_h0), (0, .ref b)] → W p l e room_1 s m #[Value.ref b] below meth c H locs nc ns (lw_Z below #[Value.ref b] s) (F0 m 1278 ls []) := by
        intro H locs ls t WC WR hCI hRI hP hD hS hl
        refine lv_iinc (v := (nI (i + 6))) (lv' := [(3, .int (nI (i + 6))), (2, .ref r_h0), (1, .ref k_h0), (0, .ref b)]) hx hb dL_law_1278 hl (k := 0) rfl (nI_add i 6) (by decide) rfl (fun ls hl => ?_)
        refine lv_goto (tgt := 18) hx hb dL_law_1281 (by decide) ?_
        exact ih (i + 6) H locs ls t WC WR (by omega) (by omega) hCI hRI hP hD hS hl
      refine lv_aload_n hx hb dL_law_27 rfl (lv_at hl 3 rfl) ?_
      refine lv_iload_n hx hb dL_law_28 rfl (lv_at hl 0 rfl) ?_
      refine sc_ld hx hb hX hbl hbA hS (i) rfl (by omega) (by omega) dL_law_29 ?_
      refine lv_bipush (v := 63) hx hb dL_law_30 (by decide) ?_
      refine lv_iand hx hb dL_law_32 ?_
      refine lv_topi (fun y ey => ?_)
      by_cases d0 : y = 0
      · refine lv_tableIn (off := 183) (tgt := 216) hx hb dL_law_33 (by rw [d0]; decide) (by rw [d0]; decide) (by rw [d0]; decide) (by decide) ?_
        exact lc_0 hnc hns hcx hF hX hL hbl hbA hA hiL hCI hRI hP hD hS hl kk
      by_cases d1 : y = 1
      · refine lv_tableIn (off := 246) (tgt := 279) hx hb dL_law_33 (by rw [d1]; decide) (by rw [d1]; decide) (by rw [d1]; decide) (by decide) ?_
        exact lc_1 hnc hns hcx hF hX hL hbl hbA hA hiL hCI hRI hP hD hS hl kk
      by_cases d2 : y = 2
      · refine lv_tableIn (off := 269) (tgt := 302) hx hb dL_law_33 (by rw [d2]; decide) (by rw [d2]; decide) (by rw [d2]; decide) (by decide) ?_
        exact lc_2 hnc hns hcx hF hX hL hbl hbA hA hiL hCI hRI hP hD hS hl kk
      by_cases d3 : y = 3
      · refine lv_tableIn (off := 282) (tgt := 315) hx hb dL_law_33 (by rw [d3]; decide) (by rw [d3]; decide) (by rw [d3]; decide) (by decide) ?_
        exact lc_3 hnc hns hcx hF hX hL hbl hbA hA hiL hCI hRI hP hD hS hl kk
      by_cases d4 : y = 4
      · refine lv_tableIn (off := 305) (tgt := 338) hx hb dL_law_33 (by rw [d4]; decide) (by rw [d4]; decide) (by rw [d4]; decide) (by decide) ?_
        exact lc_4 hnc hns hcx hF hX hL hbl hbA hA hiL hCI hRI hP hD hS hl kk
      by_cases d5 : y = 5
      · refine lv_tableIn (off := 338) (tgt := 371) hx hb dL_law_33 (by rw [d5]; decide) (by rw [d5]; decide) (by rw [d5]; decide) (by decide) ?_
        exact lc_5 hnc hns hcx hF hX hL hbl hbA hA hiL hCI hRI hP hD hS hl kk
      by_cases d6 : y = 6
      · refine lv_tableIn (off := 371) (tgt := 404) hx hb dL_law_33 (by rw [d6]; decide) (by rw [d6]; decide) (by rw [d6]; decide) (by decide) ?_
        exact lc_6 hnc hns hcx hF hX hL hbl hbA hA hiL hCI hRI hP hD hS hl kk
      by_cases d7 : y = 7
      · refine lv_tableIn (off := 394) (tgt := 427) hx hb dL_law_33 (by rw [d7]; decide) (by rw [d7]; decide) (by rw [d7]; decide) (by decide) ?_
        exact lc_7 hnc hns hcx hF hX hL hbl hbA hA hiL hCI hRI hP hD hS hl kk
      by_cases d8 : y = 8
      · refine lv_tableIn (off := 427) (tgt := 460) hx hb dL_law_33 (by rw [d8]; decide) (by rw [d8]; decide) (by rw [d8]; decide) (by decide) ?_
        exact lc_8 hnc hns hcx hF hX hL hbl hbA hA hiL hCI hRI hP hD hS hl kk
      by_cases d9 : y = 9
      · refine lv_tableIn (off := 440) (tgt := 473) hx hb dL_law_33 (by rw [d9]; decide) (by rw [d9]; decide) (by rw [d9]; decide) (by decide) ?_
        exact lc_9 hnc hns hcx hF hX hL hbl hbA hA hiL hCI hRI hP hD hS hl kk
      by_cases d10 : y = 10
      · refine lv_tableIn (off := 473) (tgt := 506) hx hb dL_law_33 (by rw [d10]; decide) (by rw [d10]; decide) (by rw [d10]; decide) (by decide) ?_
        exact lc_10 hnc hns hcx hF hX hL hbl hbA hA hiL hCI hRI hP hD hS hl kk
      by_cases d11 : y = 11
      · refine lv_tableIn (off := 506) (tgt := 539) hx hb dL_law_33 (by rw [d11]; decide) (by rw [d11]; decide) (by rw [d11]; decide) (by decide) ?_
        exact lc_11 hnc hns hcx hF hX hL hbl hbA hA hiL hCI hRI hP hD hS hl kk
      by_cases d12 : y = 12
      · refine lv_tableIn (off := 539) (tgt := 572) hx hb dL_law_33 (by rw [d12]; decide) (by rw [d12]; decide) (by rw [d12]; decide) (by decide) ?_
        exact lc_12 hnc hns hcx hF hX hL hbl hbA hA hiL hCI hRI hP hD hS hl kk
      by_cases d13 : y = 13
      · refine lv_tableIn (off := 572) (tgt := 605) hx hb dL_law_33 (by rw [d13]; decide) (by rw [d13]; decide) (by rw [d13]; decide) (by decide) ?_
        exact lc_13 hnc hns hcx hF hX hL hbl hbA hA hiL hCI hRI hP hD hS hl kk
      by_cases d14 : y = 14
      · refine lv_tableIn (off := 595) (tgt := 628) hx hb dL_law_33 (by rw [d14]; decide) (by rw [d14]; decide) (by rw [d14]; decide) (by decide) ?_
        exact lc_14 hnc hns hcx hF hX hL hbl hbA hA hiL hCI hRI hP hD hS hl kk
      by_cases d15 : y = 15
      · refine lv_tableIn (off := 608) (tgt := 641) hx hb dL_law_33 (by rw [d15]; decide) (by rw [d15]; decide) (by rw [d15]; decide) (by decide) ?_
        exact lc_15 hnc hns hcx hF hX hL hbl hbA hA hiL hCI hRI hP hD hS hl kk
      by_cases d16 : y = 16
      · refine lv_tableIn (off := 621) (tgt := 654) hx hb dL_law_33 (by rw [d16]; decide) (by rw [d16]; decide) (by rw [d16]; decide) (by decide) ?_
        exact lc_16 hnc hns hcx hF hX hL hbl hbA hA hiL hCI hRI hP hD hS hl kk
      by_cases d17 : y = 17
      · refine lv_tableIn (off := 634) (tgt := 667) hx hb dL_law_33 (by rw [d17]; decide) (by rw [d17]; decide) (by rw [d17]; decide) (by decide) ?_
        exact lc_17 hnc hns hcx hF hX hL hbl hbA hA hiL hCI hRI hP hD hS hl kk
      by_cases d18 : y = 18
      · refine lv_tableIn (off := 667) (tgt := 700) hx hb dL_law_33 (by rw [d18]; decide) (by rw [d18]; decide) (by rw [d18]; decide) (by decide) ?_
        exact lc_18 hnc hns hcx hF hX hL hbl hbA hA hiL hCI hRI hP hD hS hl kk
      by_cases d19 : y = 19
      · refine lv_tableIn (off := 690) (tgt := 723) hx hb dL_law_33 (by rw [d19]; decide) (by rw [d19]; decide) (by rw [d19]; decide) (by decide) ?_
        exact lc_19 hnc hns hcx hF hX hL hbl hbA hA hiL hCI hRI hP hD hS hl kk
      by_cases d20 : y = 20
      · refine lv_tableIn (off := 713) (tgt := 746) hx hb dL_law_33 (by rw [d20]; decide) (by rw [d20]; decide) (by rw [d20]; decide) (by decide) ?_
        exact lc_20 hnc hns hcx hF hX hL hbl hbA hA hiL hCI hRI hP hD hS hl kk
      by_cases d21 : y = 21
      · refine lv_tableIn (off := 726) (tgt := 759) hx hb dL_law_33 (by rw [d21]; decide) (by rw [d21]; decide) (by rw [d21]; decide) (by decide) ?_
        exact lc_21 hnc hns hcx hF hX hL hbl hbA hA hiL hCI hRI hP hD hS hl kk
      by_cases d22 : y = 22
      · refine lv_tableIn (off := 739) (tgt := 772) hx hb dL_law_33 (by rw [d22]; decide) (by rw [d22]; decide) (by rw [d22]; decide) (by decide) ?_
        exact lc_22 hnc hns hcx hF hX hL hbl hbA hA hiL hCI hRI hP hD hS hl kk
      by_cases d23 : y = 23
      · refine lv_tableIn (off := 772) (tgt := 805) hx hb dL_law_33 (by rw [d23]; decide) (by rw [d23]; decide) (by rw [d23]; decide) (by decide) ?_
        exact lc_23 hnc hns hcx hF hX hL hbl hbA hA hiL hCI hRI hP hD hS hl kk
      by_cases d24 : y = 24
      · refine lv_tableIn (off := 805) (tgt := 838) hx hb dL_law_33 (by rw [d24]; decide) (by rw [d24]; decide) (by rw [d24]; decide) (by decide) ?_
        exact lc_24 hnc hns hcx hF hX hL hbl hbA hA hiL hCI hRI hP hD hS hl kk
      by_cases d25 : y = 25
      · refine lv_tableIn (off := 818) (tgt := 851) hx hb dL_law_33 (by rw [d25]; decide) (by rw [d25]; decide) (by rw [d25]; decide) (by decide) ?_
        exact lc_25 hnc hns hcx hF hX hL hbl hbA hA hiL hCI hRI hP hD hS hl kk
      by_cases d26 : y = 26
      · refine lv_tableIn (off := 841) (tgt := 874) hx hb dL_law_33 (by rw [d26]; decide) (by rw [d26]; decide) (by rw [d26]; decide) (by decide) ?_
        exact lc_26 hnc hns hcx hF hX hL hbl hbA hA hiL hCI hRI hP hD hS hl kk
      by_cases d27 : y = 27
      · refine lv_tableIn (off := 864) (tgt := 897) hx hb dL_law_33 (by rw [d27]; decide) (by rw [d27]; decide) (by rw [d27]; decide) (by decide) ?_
        exact lc_27 hnc hns hcx hF hX hL hbl hbA hA hiL hCI hRI hP hD hS hl kk
      by_cases d28 : y = 28
      · refine lv_tableIn (off := 877) (tgt := 910) hx hb dL_law_33 (by rw [d28]; decide) (by rw [d28]; decide) (by rw [d28]; decide) (by decide) ?_
        exact lc_28 hnc hns hcx hF hX hL hbl hbA hA hiL hCI hRI hP hD hS hl kk
      by_cases d29 : y = 29
      · refine lv_tableIn (off := 900) (tgt := 933) hx hb dL_law_33 (by rw [d29]; decide) (by rw [d29]; decide) (by rw [d29]; decide) (by decide) ?_
        exact lc_29 hnc hns hcx hF hX hL hbl hbA hA hiL hCI hRI hP hD hS hl kk
      by_cases d30 : y = 30
      · refine lv_tableIn (off := 913) (tgt := 946) hx hb dL_law_33 (by rw [d30]; decide) (by rw [d30]; decide) (by rw [d30]; decide) (by decide) ?_
        exact lc_30 hnc hns hcx hF hX hL hbl hbA hA hiL hCI hRI hP hD hS hl kk
      by_cases d31 : y = 31
      · refine lv_tableIn (off := 926) (tgt := 959) hx hb dL_law_33 (by rw [d31]; decide) (by rw [d31]; decide) (by rw [d31]; decide) (by decide) ?_
        exact lc_31 hnc hns hcx hF hX hL hbl hbA hA hiL hCI hRI hP hD hS hl kk
      by_cases d32 : y = 32
      · refine lv_tableIn (off := 959) (tgt := 992) hx hb dL_law_33 (by rw [d32]; decide) (by rw [d32]; decide) (by rw [d32]; decide) (by decide) ?_
        exact lc_32 hnc hns hcx hF hX hL hbl hbA hA hiL hCI hRI hP hD hS hl kk
      by_cases d33 : y = 33
      · refine lv_tableIn (off := 982) (tgt := 1015) hx hb dL_law_33 (by rw [d33]; decide) (by rw [d33]; decide) (by rw [d33]; decide) (by decide) ?_
        exact lc_33 hnc hns hcx hF hX hL hbl hbA hA hiL hCI hRI hP hD hS hl kk
      by_cases d34 : y = 34
      · refine lv_tableIn (off := 1041) (tgt := 1074) hx hb dL_law_33 (by rw [d34]; decide) (by rw [d34]; decide) (by rw [d34]; decide) (by decide) ?_
        exact lc_34 hnc hns hcx hF hX hL hbl hbA hA hiL hCI hRI hP hD hS hl kk
      by_cases d35 : y = 35
      · refine lv_tableIn (off := 1064) (tgt := 1097) hx hb dL_law_33 (by rw [d35]; decide) (by rw [d35]; decide) (by rw [d35]; decide) (by decide) ?_
        exact lc_35 hnc hns hcx hF hX hL hbl hbA hA hiL hCI hRI hP hD hS hl kk
      by_cases d36 : y = 36
      · refine lv_tableIn (off := 1087) (tgt := 1120) hx hb dL_law_33 (by rw [d36]; decide) (by rw [d36]; decide) (by rw [d36]; decide) (by decide) ?_
        exact lc_36 hnc hns hcx hF hX hL hbl hbA hA hiL hCI hRI hP hD hS hl kk
      by_cases d37 : y = 37
      · refine lv_tableIn (off := 1110) (tgt := 1143) hx hb dL_law_33 (by rw [d37]; decide) (by rw [d37]; decide) (by rw [d37]; decide) (by decide) ?_
        exact lc_37 hnc hns hcx hF hX hL hbl hbA hA hiL hCI hRI hP hD hS hl kk
      by_cases d38 : y = 38
      · refine lv_tableIn (off := 1143) (tgt := 1176) hx hb dL_law_33 (by rw [d38]; decide) (by rw [d38]; decide) (by rw [d38]; decide) (by decide) ?_
        exact lc_38 hnc hns hcx hF hX hL hbl hbA hA hiL hCI hRI hP hD hS hl kk
      by_cases d39 : y = 39
      · refine lv_tableIn (off := 1176) (tgt := 1209) hx hb dL_law_33 (by rw [d39]; decide) (by rw [d39]; decide) (by rw [d39]; decide) (by decide) ?_
        exact lc_39 hnc hns hcx hF hX hL hbl hbA hA hiL hCI hRI hP hD hS hl kk
      by_cases d40 : y = 40
      · refine lv_tableIn (off := 1199) (tgt := 1232) hx hb dL_law_33 (by rw [d40]; decide) (by rw [d40]; decide) (by rw [d40]; decide) (by decide) ?_
        exact lc_40 hnc hns hcx hF hX hL hbl hbA hA hiL hCI hRI hP hD hS hl kk
      by_cases d41 : y = 41
      · refine lv_tableIn (off := 1222) (tgt := 1255) hx hb dL_law_33 (by rw [d41]; decide) (by rw [d41]; decide) (by rw [d41]; decide) (by decide) ?_
        exact lc_41 hnc hns hcx hF hX hL hbl hbA hA hiL hCI hRI hP hD hS hl kk
      have hsw : ∀ v : Nat, v ≤ 41 → ¬ y = nI v := sw_s (n := 40) (sw_s (n := 39) (sw_s (n := 38) (sw_s (n := 37) (sw_s (n := 36) (sw_s (n := 35) (sw_s (n := 34) (sw_s (n := 33) (sw_s (n := 32) (sw_s (n := 31) (sw_s (n := 30) (sw_s (n := 29) (sw_s (n := 28) (sw_s (n := 27) (sw_s (n := 26) (sw_s (n := 25) (sw_s (n := 24) (sw_s (n := 23) (sw_s (n := 22) (sw_s (n := 21) (sw_s (n := 20) (sw_s (n := 19) (sw_s (n := 18) (sw_s (n := 17) (sw_s (n := 16) (sw_s (n := 15) (sw_s (n := 14) (sw_s (n := 13) (sw_s (n := 12) (sw_s (n := 11) (sw_s (n := 10) (sw_s (n := 9) (sw_s (n := 8) (sw_s (n := 7) (sw_s (n := 6) (sw_s (n := 5) (sw_s (n := 4) (sw_s (n := 3) (sw_s (n := 2) (sw_s (n := 1) (sw_s (n := 0) (sw_0 (P := fun v => ¬ y = nI v) d0) d1) d2) d3) d4) d5) d6) d7) d8) d9) d10) d11) d12) d13) d14) d15) d16) d17) d18) d19) d20) d21) d22) d23) d24) d25) d26) d27) d28) d29) d30) d31) d32) d33) d34) d35) d36) d37) d38) d39) d40) d41
      refine lv_tableOut (tgt := 1278) hx hb dL_law_33 (sw_out (hi := 41) (by decide) hsw) (by decide) ?_
      exact kk H locs ls t WC WR hCI hRI hP hD hS hl
    · refine lv_icmp_gt (tgt := 1284) hx hb dL_law_24 (by decide) (fun _ => ?_) (fun c1 => absurd (law_gt hiL hL hi) c1)
      refine lv_iconst (v := 1) hx hb dL_law_1284 (by decide) ?_
      refine va_forget (fun q hq => hAl _ (hS.2.2 q hq)) ?_
      refine W.widen (k := 600000) (n := 7302250) (by omega) (by omega) ?_
      exact lw_ret hx hb hr hlocks dL_law_1285
