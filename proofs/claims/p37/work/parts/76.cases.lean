set_option maxHeartbeats 4000000 in
set_option maxRecDepth 100000 in
theorem lc_0 {p : Program} {l : Launch} {e : Env} {s : State} {m : MethodId} {below : List Frame} {meth : Method} {c : Code} {g : Gx} {b L : Nat} {xs : Nat → Int32} {A : Nat → Prop} {nc ns : Nat} {z : Sg} {Q : State → Prop} {k_h0 k_rd k_tk k_tp k_sp k_dr k_dr_winds k_dr_lees k_dr_gustChances k_dr_gusts k_dr_cloths k_dr_trues k_dr_strengths k_dr_reefs k_dr_cornerNames k_dr_guildNames k_dr_pu k_dr_pu_op k_dr_pu_nu k_dr_pu_st k_dr_ho k_dr_ho_op k_dr_ho_nu k_dr_ho_st k_to k_to_winds k_to_lees k_to_gustChances k_to_gusts k_to_cloths k_to_trues k_to_strengths k_to_reefs k_to_pu k_to_pu_op k_to_pu_nu k_to_pu_st k_to_ho k_to_ho_op k_to_ho_nu k_to_ho_st k_no k_no_or k_no_re k_no_ch k_no_ho k_no_gu k_co k_va k_ou k_tr k_tr_or k_tr_re k_tr_ch k_tr_ho k_tr_gu k_ra k_or_ k_su k_ah k_td k_be k_hi k_sa k_ly k_nu k_si k_s_corners k_s_guilds k_s_wasUp k_s_toldAt k_s_untoldAt k_s_untold k_s_upBehind k_s_fitting k_s_groups k_t2 k_t2_or k_t2_re k_t2_ch k_t2_ho k_t2_gu k_bx k_bf r_h0 r_m_tape r_m_text r_m_corners r_m_guilds r_m_gusts r_m_units r_m_draw r_m_told r_m_wind r_m_lee r_m_gust r_m_blow r_m_cloth r_m_truth r_m_strong r_m_reefTold r_m_ruleFrom r_m_ruleTo r_m_cName r_m_gName r_m_code r_m_codeNumber r_m_eWhat r_m_eSign r_m_pile r_m_all r_m_was r_m_kept r_m_laidRow r_m_fell r_m_good r_m_least r_m_with r_m_upBy r_m_sCorners r_m_sGuild r_m_sIs r_m_sTold r_m_sUntold r_m_parts r_m_boxAll r_m_isBoxed : Nat} {i : Nat} {H : Heap} {locs : List Loc} {ls : Array Slot} {t : Int32} {WC WR : va_W} (hnc : nc ≤ 10000) (hns : ns ≤ 1000000) (hcx : Cx p s m #[Value.ref b] meth c cL_law 4 ret RL meth.name g) (hF : SEg z A s s.heap) (hX : va_X b L xs s s.heap) (hL : L ≤ 3072) (hbl : b < s.heap.size) (hbA : ¬ A b) (hA : ∀ q : Nat, s.heap.size ≤ q → A q) (hi : i + 6 ≤ L) (hCI : CI g k_h0 k_rd k_tk k_tp k_sp k_dr k_dr_winds k_dr_lees k_dr_gustChances k_dr_gusts k_dr_cloths k_dr_trues k_dr_strengths k_dr_reefs k_dr_cornerNames k_dr_guildNames k_dr_pu k_dr_pu_op k_dr_pu_nu k_dr_pu_st k_dr_ho k_dr_ho_op k_dr_ho_nu k_dr_ho_st k_to k_to_winds k_to_lees k_to_gustChances k_to_gusts k_to_cloths k_to_trues k_to_strengths k_to_reefs k_to_pu k_to_pu_op k_to_pu_nu k_to_pu_st k_to_ho k_to_ho_op k_to_ho_nu k_to_ho_st k_no k_no_or k_no_re k_no_ch k_no_ho k_no_gu k_co k_va k_ou k_tr k_tr_or k_tr_re k_tr_ch k_tr_ho k_tr_gu k_ra k_or_ k_su k_ah k_td k_be k_hi k_sa k_ly k_nu k_si k_s_corners k_s_guilds k_s_wasUp k_s_toldAt k_s_untoldAt k_s_untold k_s_upBehind k_s_fitting k_s_groups k_t2 k_t2_or k_t2_re k_t2_ch k_t2_ho k_t2_gu k_bx k_bf t WC) (hRI : RI g r_h0 r_m_tape r_m_text r_m_corners r_m_guilds r_m_gusts r_m_units r_m_draw r_m_told r_m_wind r_m_lee r_m_gust r_m_blow r_m_cloth r_m_truth r_m_strong r_m_reefTold r_m_ruleFrom r_m_ruleTo r_m_cName r_m_gName r_m_code r_m_codeNumber r_m_eWhat r_m_eSign r_m_pile r_m_all r_m_was r_m_kept r_m_laidRow r_m_fell r_m_good r_m_least r_m_with r_m_upBy r_m_sCorners r_m_sGuild r_m_sIs r_m_sTold r_m_sUntold r_m_parts r_m_boxAll r_m_isBoxed t WR) (hP : va_P g.1 vwCl (WC ++ WR) H) (hD : va_D A (WC ++ WR)) (hS : va_S A s.heap H locs) (hl : lv_has ls 4 [(3, .int (nI i)), (2, .ref r_h0), (1, .ref k_h0), (0, .ref b)])
    (kk : ∀ (H : Heap) (locs : List Loc) (ls : Array Slot) (t : Int32) (WC WR : va_W), CI g k_h0 k_rd k_tk k_tp k_sp k_dr k_dr_winds k_dr_lees k_dr_gustChances k_dr_gusts k_dr_cloths k_dr_trues k_dr_strengths k_dr_reefs k_dr_cornerNames k_dr_guildNames k_dr_pu k_dr_pu_op k_dr_pu_nu k_dr_pu_st k_dr_ho k_dr_ho_op k_dr_ho_nu k_dr_ho_st k_to k_to_winds k_to_lees k_to_gustChances k_to_gusts k_to_cloths k_to_trues k_to_strengths k_to_reefs k_to_pu k_to_pu_op k_to_pu_nu k_to_pu_st k_to_ho k_to_ho_op k_to_ho_nu k_to_ho_st k_no k_no_or k_no_re k_no_ch k_no_ho k_no_gu k_co k_va k_ou k_tr k_tr_or k_tr_re k_tr_ch k_tr_ho k_tr_gu k_ra k_or_ k_su k_ah k_td k_be k_hi k_sa k_ly k_nu k_si k_s_corners k_s_guilds k_s_wasUp k_s_toldAt k_s_untoldAt k_s_untold k_s_upBehind k_s_fitting k_s_groups k_t2 k_t2_or k_t2_re k_t2_ch k_t2_ho k_t2_gu k_bx k_bf t WC → RI g r_h0 r_m_tape r_m_text r_m_corners r_m_guilds r_m_gusts r_m_units r_m_draw r_m_told r_m_wind r_m_lee r_m_gust r_m_blow r_m_cloth r_m_truth r_m_strong r_m_reefTold r_m_ruleFrom r_m_ruleTo r_m_cName r_m_gName r_m_code r_m_codeNumber r_m_eWhat r_m_eSign r_m_pile r_m_all r_m_was r_m_kept r_m_laidRow r_m_fell r_m_good r_m_least r_m_with r_m_upBy r_m_sCorners r_m_sGuild r_m_sIs r_m_sTold r_m_sUntold r_m_parts r_m_boxAll r_m_isBoxed t WR → va_P g.1 vwCl (WC ++ WR) H → va_D A (WC ++ WR) → va_S A s.heap H locs → lv_has ls 4 [(3, .int (nI i)), (2, .ref r_h0), (1, .ref k_h0), (0, .ref b)] → W p l e room_1 s m #[Value.ref b] below meth c H locs nc ns Q (F0 m 1278 ls [])) : W p l e room_1 s m #[Value.ref b] below meth c H locs nc ns Q (F0 m 216 ls []) := by
  obtain ⟨hx, hb, hml, hr, hlocks, hown, hts, hE, hnm⟩ := id hcx
  refine lv_aload_n hx hb dL_law_216 rfl (lv_at hl 2 rfl) ?_
  refine lv_aload_n hx hb dL_law_217 rfl (lv_at hl 3 rfl) ?_
  refine lv_iload_n hx hb dL_law_218 rfl (lv_at hl 0 rfl) ?_
  refine lv_iconst (v := 1) hx hb dL_law_219 (by decide) ?_
  refine lv_iadd hx hb dL_law_220 ?_
  refine lv_tope (y := (nI (i + 1))) (nI_add (i) (1)) ?_
  refine sc_ld hx hb hX hbl hbA hS (i + 1) rfl (by omega) (by omega) dL_law_221 ?_
  refine lv_aload_n hx hb dL_law_222 rfl (lv_at hl 3 rfl) ?_
  refine lv_iload_n hx hb dL_law_223 rfl (lv_at hl 0 rfl) ?_
  refine lv_iconst (v := 2) hx hb dL_law_224 (by decide) ?_
  refine lv_iadd hx hb dL_law_225 ?_
  refine lv_tope (y := (nI (i + 2))) (nI_add (i) (2)) ?_
  refine sc_ld hx hb hX hbl hbA hS (i + 2) rfl (by omega) (by omega) dL_law_226 ?_
  refine lv_aload_n hx hb dL_law_227 rfl (lv_at hl 3 rfl) ?_
  refine lv_iload_n hx hb dL_law_228 rfl (lv_at hl 0 rfl) ?_
  refine lv_iconst (v := 3) hx hb dL_law_229 (by decide) ?_
  refine lv_iadd hx hb dL_law_230 ?_
  refine lv_tope (y := (nI (i + 3))) (nI_add (i) (3)) ?_
  refine sc_ld hx hb hX hbl hbA hS (i + 3) rfl (by omega) (by omega) dL_law_231 ?_
  refine lv_aload_n hx hb dL_law_232 rfl (lv_at hl 3 rfl) ?_
  refine lv_iload_n hx hb dL_law_233 rfl (lv_at hl 0 rfl) ?_
  refine lv_iconst (v := 4) hx hb dL_law_234 (by decide) ?_
  refine lv_iadd hx hb dL_law_235 ?_
  refine lv_tope (y := (nI (i + 4))) (nI_add (i) (4)) ?_
  refine sc_ld hx hb hX hbl hbA hS (i + 4) rfl (by omega) (by omega) dL_law_236 ?_
  refine lv_aload_n hx hb dL_law_237 rfl (lv_at hl 3 rfl) ?_
  refine lv_iload_n hx hb dL_law_238 rfl (lv_at hl 0 rfl) ?_
  refine lv_iconst (v := 5) hx hb dL_law_239 (by decide) ?_
  refine lv_iadd hx hb dL_law_240 ?_
  refine lv_tope (y := (nI (i + 5))) (nI_add (i) (5)) ?_
  refine sc_ld hx hb hX hbl hbA hS (i + 5) rfl (by omega) (by omega) dL_law_241 ?_
  refine lk_feed ((xs (i + 1))) ((xs (i + 2))) ((xs (i + 3))) ((xs (i + 4))) ((xs (i + 5))) hnc hns hcx hA hl.1 hCI hP hD hS (fun r1 WC H locs hCI hP hD hS => ?_)
  refine lv_pop hx hb dL_law_245 rfl ?_
  refine lv_aload_n hx hb dL_law_246 rfl (lv_at hl 1 rfl) ?_
  refine lv_aload_n hx hb dL_law_247 rfl (lv_at hl 3 rfl) ?_
  refine lv_iload_n hx hb dL_law_248 rfl (lv_at hl 0 rfl) ?_
  refine lv_iconst (v := 1) hx hb dL_law_249 (by decide) ?_
  refine lv_iadd hx hb dL_law_250 ?_
  refine lv_tope (y := (nI (i + 1))) (nI_add (i) (1)) ?_
  refine sc_ld hx hb hX hbl hbA hS (i + 1) rfl (by omega) (by omega) dL_law_251 ?_
  refine lv_aload_n hx hb dL_law_252 rfl (lv_at hl 3 rfl) ?_
  refine lv_iload_n hx hb dL_law_253 rfl (lv_at hl 0 rfl) ?_
  refine lv_iconst (v := 2) hx hb dL_law_254 (by decide) ?_
  refine lv_iadd hx hb dL_law_255 ?_
  refine lv_tope (y := (nI (i + 2))) (nI_add (i) (2)) ?_
  refine sc_ld hx hb hX hbl hbA hS (i + 2) rfl (by omega) (by omega) dL_law_256 ?_
  refine lv_aload_n hx hb dL_law_257 rfl (lv_at hl 3 rfl) ?_
  refine lv_iload_n hx hb dL_law_258 rfl (lv_at hl 0 rfl) ?_
  refine lv_iconst (v := 3) hx hb dL_law_259 (by decide) ?_
  refine lv_iadd hx hb dL_law_260 ?_
  refine lv_tope (y := (nI (i + 3))) (nI_add (i) (3)) ?_
  refine sc_ld hx hb hX hbl hbA hS (i + 3) rfl (by omega) (by omega) dL_law_261 ?_
  refine lv_aload_n hx hb dL_law_262 rfl (lv_at hl 3 rfl) ?_
  refine lv_iload_n hx hb dL_law_263 rfl (lv_at hl 0 rfl) ?_
  refine lv_iconst (v := 4) hx hb dL_law_264 (by decide) ?_
  refine lv_iadd hx hb dL_law_265 ?_
  refine lv_tope (y := (nI (i + 4))) (nI_add (i) (4)) ?_
  refine sc_ld hx hb hX hbl hbA hS (i + 4) rfl (by omega) (by omega) dL_law_266 ?_
  refine lv_aload_n hx hb dL_law_267 rfl (lv_at hl 3 rfl) ?_
  refine lv_iload_n hx hb dL_law_268 rfl (lv_at hl 0 rfl) ?_
  refine lv_iconst (v := 5) hx hb dL_law_269 (by decide) ?_
  refine lv_iadd hx hb dL_law_270 ?_
  refine lv_tope (y := (nI (i + 5))) (nI_add (i) (5)) ?_
  refine sc_ld hx hb hX hbl hbA hS (i + 5) rfl (by omega) (by omega) dL_law_271 ?_
  have hP := P_perm hP List.perm_append_comm
  have hD := D_perm hD List.perm_append_comm
  refine lr_feed ((xs (i + 1))) ((xs (i + 2))) ((xs (i + 3))) ((xs (i + 4))) ((xs (i + 5))) hnc hns hcx hA hl.1 hRI hP hD hS (fun r2 WR H locs hRI hP hD hS => ?_)
  have hP := P_perm hP List.perm_append_comm
  have hD := D_perm hD List.perm_append_comm
  refine lv_pop hx hb dL_law_275 rfl ?_
  refine lv_goto (tgt := 1278) hx hb dL_law_276 (by decide) ?_
  exact kk H locs ls t WC WR hCI hRI hP hD hS hl

set_option maxHeartbeats 4000000 in
set_option maxRecDepth 100000 in
theorem lc_1 {p : Program} {l : Launch} {e : Env} {s : State} {m : MethodId} {below : List Frame} {meth : Method} {c : Code} {g : Gx} {b L : Nat} {xs : Nat → Int32} {A : Nat → Prop} {nc ns : Nat} {z : Sg} {Q : State → Prop} {k_h0 k_rd k_tk k_tp k_sp k_dr k_dr_winds k_dr_lees k_dr_gustChances k_dr_gusts k_dr_cloths k_dr_trues k_dr_strengths k_dr_reefs k_dr_cornerNames k_dr_guildNames k_dr_pu k_dr_pu_op k_dr_pu_nu k_dr_pu_st k_dr_ho k_dr_ho_op k_dr_ho_nu k_dr_ho_st k_to k_to_winds k_to_lees k_to_gustChances k_to_gusts k_to_cloths k_to_trues k_to_strengths k_to_reefs k_to_pu k_to_pu_op k_to_pu_nu k_to_pu_st k_to_ho k_to_ho_op k_to_ho_nu k_to_ho_st k_no k_no_or k_no_re k_no_ch k_no_ho k_no_gu k_co k_va k_ou k_tr k_tr_or k_tr_re k_tr_ch k_tr_ho k_tr_gu k_ra k_or_ k_su k_ah k_td k_be k_hi k_sa k_ly k_nu k_si k_s_corners k_s_guilds k_s_wasUp k_s_toldAt k_s_untoldAt k_s_untold k_s_upBehind k_s_fitting k_s_groups k_t2 k_t2_or k_t2_re k_t2_ch k_t2_ho k_t2_gu k_bx k_bf r_h0 r_m_tape r_m_text r_m_corners r_m_guilds r_m_gusts r_m_units r_m_draw r_m_told r_m_wind r_m_lee r_m_gust r_m_blow r_m_cloth r_m_truth r_m_strong r_m_reefTold r_m_ruleFrom r_m_ruleTo r_m_cName r_m_gName r_m_code r_m_codeNumber r_m_eWhat r_m_eSign r_m_pile r_m_all r_m_was r_m_kept r_m_laidRow r_m_fell r_m_good r_m_least r_m_with r_m_upBy r_m_sCorners r_m_sGuild r_m_sIs r_m_sTold r_m_sUntold r_m_parts r_m_boxAll r_m_isBoxed : Nat} {i : Nat} {H : Heap} {locs : List Loc} {ls : Array Slot} {t : Int32} {WC WR : va_W} (hnc : nc ≤ 10000) (hns : ns ≤ 1000000) (hcx : Cx p s m #[Value.ref b] meth c cL_law 4 ret RL meth.name g) (hF : SEg z A s s.heap) (hX : va_X b L xs s s.heap) (hL : L ≤ 3072) (hbl : b < s.heap.size) (hbA : ¬ A b) (hA : ∀ q : Nat, s.heap.size ≤ q → A q) (hi : i + 6 ≤ L) (hCI : CI g k_h0 k_rd k_tk k_tp k_sp k_dr k_dr_winds k_dr_lees k_dr_gustChances k_dr_gusts k_dr_cloths k_dr_trues k_dr_strengths k_dr_reefs k_dr_cornerNames k_dr_guildNames k_dr_pu k_dr_pu_op k_dr_pu_nu k_dr_pu_st k_dr_ho k_dr_ho_op k_dr_ho_nu k_dr_ho_st k_to k_to_winds k_to_lees k_to_gustChances k_to_gusts k_to_cloths k_to_trues k_to_strengths k_to_reefs k_to_pu k_to_pu_op k_to_pu_nu k_to_pu_st k_to_ho k_to_ho_op k_to_ho_nu k_to_ho_st k_no k_no_or k_no_re k_no_ch k_no_ho k_no_gu k_co k_va k_ou k_tr k_tr_or k_tr_re k_tr_ch k_tr_ho k_tr_gu k_ra k_or_ k_su k_ah k_td k_be k_hi k_sa k_ly k_nu k_si k_s_corners k_s_guilds k_s_wasUp k_s_toldAt k_s_untoldAt k_s_untold k_s_upBehind k_s_fitting k_s_groups k_t2 k_t2_or k_t2_re k_t2_ch k_t2_ho k_t2_gu k_bx k_bf t WC) (hRI : RI g r_h0 r_m_tape r_m_text r_m_corners r_m_guilds r_m_gusts r_m_units r_m_draw r_m_told r_m_wind r_m_lee r_m_gust r_m_blow r_m_cloth r_m_truth r_m_strong r_m_reefTold r_m_ruleFrom r_m_ruleTo r_m_cName r_m_gName r_m_code r_m_codeNumber r_m_eWhat r_m_eSign r_m_pile r_m_all r_m_was r_m_kept r_m_laidRow r_m_fell r_m_good r_m_least r_m_with r_m_upBy r_m_sCorners r_m_sGuild r_m_sIs r_m_sTold r_m_sUntold r_m_parts r_m_boxAll r_m_isBoxed t WR) (hP : va_P g.1 vwCl (WC ++ WR) H) (hD : va_D A (WC ++ WR)) (hS : va_S A s.heap H locs) (hl : lv_has ls 4 [(3, .int (nI i)), (2, .ref r_h0), (1, .ref k_h0), (0, .ref b)])
    (kk : ∀ (H : Heap) (locs : List Loc) (ls : Array Slot) (t : Int32) (WC WR : va_W), CI g k_h0 k_rd k_tk k_tp k_sp k_dr k_dr_winds k_dr_lees k_dr_gustChances k_dr_gusts k_dr_cloths k_dr_trues k_dr_strengths k_dr_reefs k_dr_cornerNames k_dr_guildNames k_dr_pu k_dr_pu_op k_dr_pu_nu k_dr_pu_st k_dr_ho k_dr_ho_op k_dr_ho_nu k_dr_ho_st k_to k_to_winds k_to_lees k_to_gustChances k_to_gusts k_to_cloths k_to_trues k_to_strengths k_to_reefs k_to_pu k_to_pu_op k_to_pu_nu k_to_pu_st k_to_ho k_to_ho_op k_to_ho_nu k_to_ho_st k_no k_no_or k_no_re k_no_ch k_no_ho k_no_gu k_co k_va k_ou k_tr k_tr_or k_tr_re k_tr_ch k_tr_ho k_tr_gu k_ra k_or_ k_su k_ah k_td k_be k_hi k_sa k_ly k_nu k_si k_s_corners k_s_guilds k_s_wasUp k_s_toldAt k_s_untoldAt k_s_untold k_s_upBehind k_s_fitting k_s_groups k_t2 k_t2_or k_t2_re k_t2_ch k_t2_ho k_t2_gu k_bx k_bf t WC → RI g r_h0 r_m_tape r_m_text r_m_corners r_m_guilds r_m_gusts r_m_units r_m_draw r_m_told r_m_wind r_m_lee r_m_gust r_m_blow r_m_cloth r_m_truth r_m_strong r_m_reefTold r_m_ruleFrom r_m_ruleTo r_m_cName r_m_gName r_m_code r_m_codeNumber r_m_eWhat r_m_eSign r_m_pile r_m_all r_m_was r_m_kept r_m_laidRow r_m_fell r_m_good r_m_least r_m_with r_m_upBy r_m_sCorners r_m_sGuild r_m_sIs r_m_sTold r_m_sUntold r_m_parts r_m_boxAll r_m_isBoxed t WR → va_P g.1 vwCl (WC ++ WR) H → va_D A (WC ++ WR) → va_S A s.heap H locs → lv_has ls 4 [(3, .int (nI i)), (2, .ref r_h0), (1, .ref k_h0), (0, .ref b)] → W p l e room_1 s m #[Value.ref b] below meth c H locs nc ns Q (F0 m 1278 ls [])) : W p l e room_1 s m #[Value.ref b] below meth c H locs nc ns Q (F0 m 279 ls []) := by
  obtain ⟨hx, hb, hml, hr, hlocks, hown, hts, hE, hnm⟩ := id hcx
  refine lv_aload_n hx hb dL_law_279 rfl (lv_at hl 2 rfl) ?_
  refine lv_aload_n hx hb dL_law_280 rfl (lv_at hl 3 rfl) ?_
  refine lv_iload_n hx hb dL_law_281 rfl (lv_at hl 0 rfl) ?_
  refine lv_iconst (v := 1) hx hb dL_law_282 (by decide) ?_
  refine lv_iadd hx hb dL_law_283 ?_
  refine lv_tope (y := (nI (i + 1))) (nI_add (i) (1)) ?_
  refine sc_ld hx hb hX hbl hbA hS (i + 1) rfl (by omega) (by omega) dL_law_284 ?_
  refine lk_end ((xs (i + 1))) hnc hns hcx hA hl.1 hCI hP hD hS (fun r1 WC H locs hCI hP hD hS => ?_)
  refine lv_pop hx hb dL_law_288 rfl ?_
  refine lv_aload_n hx hb dL_law_289 rfl (lv_at hl 1 rfl) ?_
  refine lv_aload_n hx hb dL_law_290 rfl (lv_at hl 3 rfl) ?_
  refine lv_iload_n hx hb dL_law_291 rfl (lv_at hl 0 rfl) ?_
  refine lv_iconst (v := 1) hx hb dL_law_292 (by decide) ?_
  refine lv_iadd hx hb dL_law_293 ?_
  refine lv_tope (y := (nI (i + 1))) (nI_add (i) (1)) ?_
  refine sc_ld hx hb hX hbl hbA hS (i + 1) rfl (by omega) (by omega) dL_law_294 ?_
  have hP := P_perm hP List.perm_append_comm
  have hD := D_perm hD List.perm_append_comm
  refine lr_end ((xs (i + 1))) hnc hns hcx hA hl.1 hRI hP hD hS (fun r2 WR H locs hRI hP hD hS => ?_)
  have hP := P_perm hP List.perm_append_comm
  have hD := D_perm hD List.perm_append_comm
  refine lv_pop hx hb dL_law_298 rfl ?_
  refine lv_goto (tgt := 1278) hx hb dL_law_299 (by decide) ?_
  exact kk H locs ls t WC WR hCI hRI hP hD hS hl

set_option maxHeartbeats 4000000 in
set_option maxRecDepth 100000 in
theorem lc_2 {p : Program} {l : Launch} {e : Env} {s : State} {m : MethodId} {below : List Frame} {meth : Method} {c : Code} {g : Gx} {b L : Nat} {xs : Nat → Int32} {A : Nat → Prop} {nc ns : Nat} {z : Sg} {Q : State → Prop} {k_h0 k_rd k_tk k_tp k_sp k_dr k_dr_winds k_dr_lees k_dr_gustChances k_dr_gusts k_dr_cloths k_dr_trues k_dr_strengths k_dr_reefs k_dr_cornerNames k_dr_guildNames k_dr_pu k_dr_pu_op k_dr_pu_nu k_dr_pu_st k_dr_ho k_dr_ho_op k_dr_ho_nu k_dr_ho_st k_to k_to_winds k_to_lees k_to_gustChances k_to_gusts k_to_cloths k_to_trues k_to_strengths k_to_reefs k_to_pu k_to_pu_op k_to_pu_nu k_to_pu_st k_to_ho k_to_ho_op k_to_ho_nu k_to_ho_st k_no k_no_or k_no_re k_no_ch k_no_ho k_no_gu k_co k_va k_ou k_tr k_tr_or k_tr_re k_tr_ch k_tr_ho k_tr_gu k_ra k_or_ k_su k_ah k_td k_be k_hi k_sa k_ly k_nu k_si k_s_corners k_s_guilds k_s_wasUp k_s_toldAt k_s_untoldAt k_s_untold k_s_upBehind k_s_fitting k_s_groups k_t2 k_t2_or k_t2_re k_t2_ch k_t2_ho k_t2_gu k_bx k_bf r_h0 r_m_tape r_m_text r_m_corners r_m_guilds r_m_gusts r_m_units r_m_draw r_m_told r_m_wind r_m_lee r_m_gust r_m_blow r_m_cloth r_m_truth r_m_strong r_m_reefTold r_m_ruleFrom r_m_ruleTo r_m_cName r_m_gName r_m_code r_m_codeNumber r_m_eWhat r_m_eSign r_m_pile r_m_all r_m_was r_m_kept r_m_laidRow r_m_fell r_m_good r_m_least r_m_with r_m_upBy r_m_sCorners r_m_sGuild r_m_sIs r_m_sTold r_m_sUntold r_m_parts r_m_boxAll r_m_isBoxed : Nat} {i : Nat} {H : Heap} {locs : List Loc} {ls : Array Slot} {t : Int32} {WC WR : va_W} (hnc : nc ≤ 10000) (hns : ns ≤ 1000000) (hcx : Cx p s m #[Value.ref b] meth c cL_law 4 ret RL meth.name g) (hF : SEg z A s s.heap) (hX : va_X b L xs s s.heap) (hL : L ≤ 3072) (hbl : b < s.heap.size) (hbA : ¬ A b) (hA : ∀ q : Nat, s.heap.size ≤ q → A q) (hi : i + 6 ≤ L) (hCI : CI g k_h0 k_rd k_tk k_tp k_sp k_dr k_dr_winds k_dr_lees k_dr_gustChances k_dr_gusts k_dr_cloths k_dr_trues k_dr_strengths k_dr_reefs k_dr_cornerNames k_dr_guildNames k_dr_pu k_dr_pu_op k_dr_pu_nu k_dr_pu_st k_dr_ho k_dr_ho_op k_dr_ho_nu k_dr_ho_st k_to k_to_winds k_to_lees k_to_gustChances k_to_gusts k_to_cloths k_to_trues k_to_strengths k_to_reefs k_to_pu k_to_pu_op k_to_pu_nu k_to_pu_st k_to_ho k_to_ho_op k_to_ho_nu k_to_ho_st k_no k_no_or k_no_re k_no_ch k_no_ho k_no_gu k_co k_va k_ou k_tr k_tr_or k_tr_re k_tr_ch k_tr_ho k_tr_gu k_ra k_or_ k_su k_ah k_td k_be k_hi k_sa k_ly k_nu k_si k_s_corners k_s_guilds k_s_wasUp k_s_toldAt k_s_untoldAt k_s_untold k_s_upBehind k_s_fitting k_s_groups k_t2 k_t2_or k_t2_re k_t2_ch k_t2_ho k_t2_gu k_bx k_bf t WC) (hRI : RI g r_h0 r_m_tape r_m_text r_m_corners r_m_guilds r_m_gusts r_m_units r_m_draw r_m_told r_m_wind r_m_lee r_m_gust r_m_blow r_m_cloth r_m_truth r_m_strong r_m_reefTold r_m_ruleFrom r_m_ruleTo r_m_cName r_m_gName r_m_code r_m_codeNumber r_m_eWhat r_m_eSign r_m_pile r_m_all r_m_was r_m_kept r_m_laidRow r_m_fell r_m_good r_m_least r_m_with r_m_upBy r_m_sCorners r_m_sGuild r_m_sIs r_m_sTold r_m_sUntold r_m_parts r_m_boxAll r_m_isBoxed t WR) (hP : va_P g.1 vwCl (WC ++ WR) H) (hD : va_D A (WC ++ WR)) (hS : va_S A s.heap H locs) (hl : lv_has ls 4 [(3, .int (nI i)), (2, .ref r_h0), (1, .ref k_h0), (0, .ref b)])
    (kk : ∀ (H : Heap) (locs : List Loc) (ls : Array Slot) (t : Int32) (WC WR : va_W), CI g k_h0 k_rd k_tk k_tp k_sp k_dr k_dr_winds k_dr_lees k_dr_gustChances k_dr_gusts k_dr_cloths k_dr_trues k_dr_strengths k_dr_reefs k_dr_cornerNames k_dr_guildNames k_dr_pu k_dr_pu_op k_dr_pu_nu k_dr_pu_st k_dr_ho k_dr_ho_op k_dr_ho_nu k_dr_ho_st k_to k_to_winds k_to_lees k_to_gustChances k_to_gusts k_to_cloths k_to_trues k_to_strengths k_to_reefs k_to_pu k_to_pu_op k_to_pu_nu k_to_pu_st k_to_ho k_to_ho_op k_to_ho_nu k_to_ho_st k_no k_no_or k_no_re k_no_ch k_no_ho k_no_gu k_co k_va k_ou k_tr k_tr_or k_tr_re k_tr_ch k_tr_ho k_tr_gu k_ra k_or_ k_su k_ah k_td k_be k_hi k_sa k_ly k_nu k_si k_s_corners k_s_guilds k_s_wasUp k_s_toldAt k_s_untoldAt k_s_untold k_s_upBehind k_s_fitting k_s_groups k_t2 k_t2_or k_t2_re k_t2_ch k_t2_ho k_t2_gu k_bx k_bf t WC → RI g r_h0 r_m_tape r_m_text r_m_corners r_m_guilds r_m_gusts r_m_units r_m_draw r_m_told r_m_wind r_m_lee r_m_gust r_m_blow r_m_cloth r_m_truth r_m_strong r_m_reefTold r_m_ruleFrom r_m_ruleTo r_m_cName r_m_gName r_m_code r_m_codeNumber r_m_eWhat r_m_eSign r_m_pile r_m_all r_m_was r_m_kept r_m_laidRow r_m_fell r_m_good r_m_least r_m_with r_m_upBy r_m_sCorners r_m_sGuild r_m_sIs r_m_sTold r_m_sUntold r_m_parts r_m_boxAll r_m_isBoxed t WR → va_P g.1 vwCl (WC ++ WR) H → va_D A (WC ++ WR) → va_S A s.heap H locs → lv_has ls 4 [(3, .int (nI i)), (2, .ref r_h0), (1, .ref k_h0), (0, .ref b)] → W p l e room_1 s m #[Value.ref b] below meth c H locs nc ns Q (F0 m 1278 ls [])) : W p l e room_1 s m #[Value.ref b] below meth c H locs nc ns Q (F0 m 302 ls []) := by
  obtain ⟨hx, hb, hml, hr, hlocks, hown, hts, hE, hnm⟩ := id hcx
  refine lv_aload_n hx hb dL_law_302 rfl (lv_at hl 2 rfl) ?_
  refine lk_town hnc hns hcx hF hA hl.1 hCI hP hD hS (fun r1 WC H locs hCI hP hD hS => ?_)
  refine lv_pop hx hb dL_law_306 rfl ?_
  refine lv_aload_n hx hb dL_law_307 rfl (lv_at hl 1 rfl) ?_
  have hP := P_perm hP List.perm_append_comm
  have hD := D_perm hD List.perm_append_comm
  refine lr_town hnc hns hcx hA hl.1 hRI hP hD hS (fun r2 WR H locs hRI hP hD hS => ?_)
  have hP := P_perm hP List.perm_append_comm
  have hD := D_perm hD List.perm_append_comm
  refine lv_pop hx hb dL_law_311 rfl ?_
  refine lv_goto (tgt := 1278) hx hb dL_law_312 (by decide) ?_
  exact kk H locs ls t WC WR hCI hRI hP hD hS hl

set_option maxHeartbeats 4000000 in
set_option maxRecDepth 100000 in
theorem lc_3 {p : Program} {l : Launch} {e : Env} {s : State} {m : MethodId} {below : List Frame} {meth : Method} {c : Code} {g : Gx} {b L : Nat} {xs : Nat → Int32} {A : Nat → Prop} {nc ns : Nat} {z : Sg} {Q : State → Prop} {k_h0 k_rd k_tk k_tp k_sp k_dr k_dr_winds k_dr_lees k_dr_gustChances k_dr_gusts k_dr_cloths k_dr_trues k_dr_strengths k_dr_reefs k_dr_cornerNames k_dr_guildNames k_dr_pu k_dr_pu_op k_dr_pu_nu k_dr_pu_st k_dr_ho k_dr_ho_op k_dr_ho_nu k_dr_ho_st k_to k_to_winds k_to_lees k_to_gustChances k_to_gusts k_to_cloths k_to_trues k_to_strengths k_to_reefs k_to_pu k_to_pu_op k_to_pu_nu k_to_pu_st k_to_ho k_to_ho_op k_to_ho_nu k_to_ho_st k_no k_no_or k_no_re k_no_ch k_no_ho k_no_gu k_co k_va k_ou k_tr k_tr_or k_tr_re k_tr_ch k_tr_ho k_tr_gu k_ra k_or_ k_su k_ah k_td k_be k_hi k_sa k_ly k_nu k_si k_s_corners k_s_guilds k_s_wasUp k_s_toldAt k_s_untoldAt k_s_untold k_s_upBehind k_s_fitting k_s_groups k_t2 k_t2_or k_t2_re k_t2_ch k_t2_ho k_t2_gu k_bx k_bf r_h0 r_m_tape r_m_text r_m_corners r_m_guilds r_m_gusts r_m_units r_m_draw r_m_told r_m_wind r_m_lee r_m_gust r_m_blow r_m_cloth r_m_truth r_m_strong r_m_reefTold r_m_ruleFrom r_m_ruleTo r_m_cName r_m_gName r_m_code r_m_codeNumber r_m_eWhat r_m_eSign r_m_pile r_m_all r_m_was r_m_kept r_m_laidRow r_m_fell r_m_good r_m_least r_m_with r_m_upBy r_m_sCorners r_m_sGuild r_m_sIs r_m_sTold r_m_sUntold r_m_parts r_m_boxAll r_m_isBoxed : Nat} {i : Nat} {H : Heap} {locs : List Loc} {ls : Array Slot} {t : Int32} {WC WR : va_W} (hnc : nc ≤ 10000) (hns : ns ≤ 1000000) (hcx : Cx p s m #[Value.ref b] meth c cL_law 4 ret RL meth.name g) (hF : SEg z A s s.heap) (hX : va_X b L xs s s.heap) (hL : L ≤ 3072) (hbl : b < s.heap.size) (hbA : ¬ A b) (hA : ∀ q : Nat, s.heap.size ≤ q → A q) (hi : i + 6 ≤ L) (hCI : CI g k_h0 k_rd k_tk k_tp k_sp k_dr k_dr_winds k_dr_lees k_dr_gustChances k_dr_gusts k_dr_cloths k_dr_trues k_dr_strengths k_dr_reefs k_dr_cornerNames k_dr_guildNames k_dr_pu k_dr_pu_op k_dr_pu_nu k_dr_pu_st k_dr_ho k_dr_ho_op k_dr_ho_nu k_dr_ho_st k_to k_to_winds k_to_lees k_to_gustChances k_to_gusts k_to_cloths k_to_trues k_to_strengths k_to_reefs k_to_pu k_to_pu_op k_to_pu_nu k_to_pu_st k_to_ho k_to_ho_op k_to_ho_nu k_to_ho_st k_no k_no_or k_no_re k_no_ch k_no_ho k_no_gu k_co k_va k_ou k_tr k_tr_or k_tr_re k_tr_ch k_tr_ho k_tr_gu k_ra k_or_ k_su k_ah k_td k_be k_hi k_sa k_ly k_nu k_si k_s_corners k_s_guilds k_s_wasUp k_s_toldAt k_s_untoldAt k_s_untold k_s_upBehind k_s_fitting k_s_groups k_t2 k_t2_or k_t2_re k_t2_ch k_t2_ho k_t2_gu k_bx k_bf t WC) (hRI : RI g r_h0 r_m_tape r_m_text r_m_corners r_m_guilds r_m_gusts r_m_units r_m_draw r_m_told r_m_wind r_m_lee r_m_gust r_m_blow r_m_cloth r_m_truth r_m_strong r_m_reefTold r_m_ruleFrom r_m_ruleTo r_m_cName r_m_gName r_m_code r_m_codeNumber r_m_eWhat r_m_eSign r_m_pile r_m_all r_m_was r_m_kept r_m_laidRow r_m_fell r_m_good r_m_least r_m_with r_m_upBy r_m_sCorners r_m_sGuild r_m_sIs r_m_sTold r_m_sUntold r_m_parts r_m_boxAll r_m_isBoxed t WR) (hP : va_P g.1 vwCl (WC ++ WR) H) (hD : va_D A (WC ++ WR)) (hS : va_S A s.heap H locs) (hl : lv_has ls 4 [(3, .int (nI i)), (2, .ref r_h0), (1, .ref k_h0), (0, .ref b)])
    (kk : ∀ (H : Heap) (locs : List Loc) (ls : Array Slot) (t : Int32) (WC WR : va_W), CI g k_h0 k_rd k_tk k_tp k_sp k_dr k_dr_winds k_dr_lees k_dr_gustChances k_dr_gusts k_dr_cloths k_dr_trues k_dr_strengths k_dr_reefs k_dr_cornerNames k_dr_guildNames k_dr_pu k_dr_pu_op k_dr_pu_nu k_dr_pu_st k_dr_ho k_dr_ho_op k_dr_ho_nu k_dr_ho_st k_to k_to_winds k_to_lees k_to_gustChances k_to_gusts k_to_cloths k_to_trues k_to_strengths k_to_reefs k_to_pu k_to_pu_op k_to_pu_nu k_to_pu_st k_to_ho k_to_ho_op k_to_ho_nu k_to_ho_st k_no k_no_or k_no_re k_no_ch k_no_ho k_no_gu k_co k_va k_ou k_tr k_tr_or k_tr_re k_tr_ch k_tr_ho k_tr_gu k_ra k_or_ k_su k_ah k_td k_be k_hi k_sa k_ly k_nu k_si k_s_corners k_s_guilds k_s_wasUp k_s_toldAt k_s_untoldAt k_s_untold k_s_upBehind k_s_fitting k_s_groups k_t2 k_t2_or k_t2_re k_t2_ch k_t2_ho k_t2_gu k_bx k_bf t WC → RI g r_h0 r_m_tape r_m_text r_m_corners r_m_guilds r_m_gusts r_m_units r_m_draw r_m_told r_m_wind r_m_lee r_m_gust r_m_blow r_m_cloth r_m_truth r_m_strong r_m_reefTold r_m_ruleFrom r_m_ruleTo r_m_cName r_m_gName r_m_code r_m_codeNumber r_m_eWhat r_m_eSign r_m_pile r_m_all r_m_was r_m_kept r_m_laidRow r_m_fell r_m_good r_m_least r_m_with r_m_upBy r_m_sCorners r_m_sGuild r_m_sIs r_m_sTold r_m_sUntold r_m_parts r_m_boxAll r_m_isBoxed t WR → va_P g.1 vwCl (WC ++ WR) H → va_D A (WC ++ WR) → va_S A s.heap H locs → lv_has ls 4 [(3, .int (nI i)), (2, .ref r_h0), (1, .ref k_h0), (0, .ref b)] → W p l e room_1 s m #[Value.ref b] below meth c H locs nc ns Q (F0 m 1278 ls [])) : W p l e room_1 s m #[Value.ref b] below meth c H locs nc ns Q (F0 m 315 ls []) := by
  obtain ⟨hx, hb, hml, hr, hlocks, hown, hts, hE, hnm⟩ := id hcx
  refine lv_aload_n hx hb dL_law_315 rfl (lv_at hl 2 rfl) ?_
  refine lv_aload_n hx hb dL_law_316 rfl (lv_at hl 3 rfl) ?_
  refine lv_iload_n hx hb dL_law_317 rfl (lv_at hl 0 rfl) ?_
  refine lv_iconst (v := 1) hx hb dL_law_318 (by decide) ?_
  refine lv_iadd hx hb dL_law_319 ?_
  refine lv_tope (y := (nI (i + 1))) (nI_add (i) (1)) ?_
  refine sc_ld hx hb hX hbl hbA hS (i + 1) rfl (by omega) (by omega) dL_law_320 ?_
  refine lk_fault ((xs (i + 1))) hnc hns hcx hA hl.1 hCI hP hD hS (fun r1 WC H locs hCI hP hD hS => ?_)
  refine lv_pop hx hb dL_law_324 rfl ?_
  refine lv_aload_n hx hb dL_law_325 rfl (lv_at hl 1 rfl) ?_
  refine lv_aload_n hx hb dL_law_326 rfl (lv_at hl 3 rfl) ?_
  refine lv_iload_n hx hb dL_law_327 rfl (lv_at hl 0 rfl) ?_
  refine lv_iconst (v := 1) hx hb dL_law_328 (by decide) ?_
  refine lv_iadd hx hb dL_law_329 ?_
  refine lv_tope (y := (nI (i + 1))) (nI_add (i) (1)) ?_
  refine sc_ld hx hb hX hbl hbA hS (i + 1) rfl (by omega) (by omega) dL_law_330 ?_
  have hP := P_perm hP List.perm_append_comm
  have hD := D_perm hD List.perm_append_comm
  refine lr_fault ((xs (i + 1))) hnc hns hcx hA hl.1 hRI hP hD hS (fun r2 WR H locs hRI hP hD hS => ?_)
  have hP := P_perm hP List.perm_append_comm
  have hD := D_perm hD List.perm_append_comm
  refine lv_pop hx hb dL_law_334 rfl ?_
  refine lv_goto (tgt := 1278) hx hb dL_law_335 (by decide) ?_
  exact kk H locs ls t WC WR hCI hRI hP hD hS hl

set_option maxHeartbeats 4000000 in
set_option maxRecDepth 100000 in
theorem lc_4 {p : Program} {l : Launch} {e : Env} {s : State} {m : MethodId} {below : List Frame} {meth : Method} {c : Code} {g : Gx} {b L : Nat} {xs : Nat → Int32} {A : Nat → Prop} {nc ns : Nat} {z : Sg} {Q : State → Prop} {k_h0 k_rd k_tk k_tp k_sp k_dr k_dr_winds k_dr_lees k_dr_gustChances k_dr_gusts k_dr_cloths k_dr_trues k_dr_strengths k_dr_reefs k_dr_cornerNames k_dr_guildNames k_dr_pu k_dr_pu_op k_dr_pu_nu k_dr_pu_st k_dr_ho k_dr_ho_op k_dr_ho_nu k_dr_ho_st k_to k_to_winds k_to_lees k_to_gustChances k_to_gusts k_to_cloths k_to_trues k_to_strengths k_to_reefs k_to_pu k_to_pu_op k_to_pu_nu k_to_pu_st k_to_ho k_to_ho_op k_to_ho_nu k_to_ho_st k_no k_no_or k_no_re k_no_ch k_no_ho k_no_gu k_co k_va k_ou k_tr k_tr_or k_tr_re k_tr_ch k_tr_ho k_tr_gu k_ra k_or_ k_su k_ah k_td k_be k_hi k_sa k_ly k_nu k_si k_s_corners k_s_guilds k_s_wasUp k_s_toldAt k_s_untoldAt k_s_untold k_s_upBehind k_s_fitting k_s_groups k_t2 k_t2_or k_t2_re k_t2_ch k_t2_ho k_t2_gu k_bx k_bf r_h0 r_m_tape r_m_text r_m_corners r_m_guilds r_m_gusts r_m_units r_m_draw r_m_told r_m_wind r_m_lee r_m_gust r_m_blow r_m_cloth r_m_truth r_m_strong r_m_reefTold r_m_ruleFrom r_m_ruleTo r_m_cName r_m_gName r_m_code r_m_codeNumber r_m_eWhat r_m_eSign r_m_pile r_m_all r_m_was r_m_kept r_m_laidRow r_m_fell r_m_good r_m_least r_m_with r_m_upBy r_m_sCorners r_m_sGuild r_m_sIs r_m_sTold r_m_sUntold r_m_parts r_m_boxAll r_m_isBoxed : Nat} {i : Nat} {H : Heap} {locs : List Loc} {ls : Array Slot} {t : Int32} {WC WR : va_W} (hnc : nc ≤ 10000) (hns : ns ≤ 1000000) (hcx : Cx p s m #[Value.ref b] meth c cL_law 4 ret RL meth.name g) (hF : SEg z A s s.heap) (hX : va_X b L xs s s.heap) (hL : L ≤ 3072) (hbl : b < s.heap.size) (hbA : ¬ A b) (hA : ∀ q : Nat, s.heap.size ≤ q → A q) (hi : i + 6 ≤ L) (hCI : CI g k_h0 k_rd k_tk k_tp k_sp k_dr k_dr_winds k_dr_lees k_dr_gustChances k_dr_gusts k_dr_cloths k_dr_trues k_dr_strengths k_dr_reefs k_dr_cornerNames k_dr_guildNames k_dr_pu k_dr_pu_op k_dr_pu_nu k_dr_pu_st k_dr_ho k_dr_ho_op k_dr_ho_nu k_dr_ho_st k_to k_to_winds k_to_lees k_to_gustChances k_to_gusts k_to_cloths k_to_trues k_to_strengths k_to_reefs k_to_pu k_to_pu_op k_to_pu_nu k_to_pu_st k_to_ho k_to_ho_op k_to_ho_nu k_to_ho_st k_no k_no_or k_no_re k_no_ch k_no_ho k_no_gu k_co k_va k_ou k_tr k_tr_or k_tr_re k_tr_ch k_tr_ho k_tr_gu k_ra k_or_ k_su k_ah k_td k_be k_hi k_sa k_ly k_nu k_si k_s_corners k_s_guilds k_s_wasUp k_s_toldAt k_s_untoldAt k_s_untold k_s_upBehind k_s_fitting k_s_groups k_t2 k_t2_or k_t2_re k_t2_ch k_t2_ho k_t2_gu k_bx k_bf t WC) (hRI : RI g r_h0 r_m_tape r_m_text r_m_corners r_m_guilds r_m_gusts r_m_units r_m_draw r_m_told r_m_wind r_m_lee r_m_gust r_m_blow r_m_cloth r_m_truth r_m_strong r_m_reefTold r_m_ruleFrom r_m_ruleTo r_m_cName r_m_gName r_m_code r_m_codeNumber r_m_eWhat r_m_eSign r_m_pile r_m_all r_m_was r_m_kept r_m_laidRow r_m_fell r_m_good r_m_least r_m_with r_m_upBy r_m_sCorners r_m_sGuild r_m_sIs r_m_sTold r_m_sUntold r_m_parts r_m_boxAll r_m_isBoxed t WR) (hP : va_P g.1 vwCl (WC ++ WR) H) (hD : va_D A (WC ++ WR)) (hS : va_S A s.heap H locs) (hl : lv_has ls 4 [(3, .int (nI i)), (2, .ref r_h0), (1, .ref k_h0), (0, .ref b)])
    (kk : ∀ (H : Heap) (locs : List Loc) (ls : Array Slot) (t : Int32) (WC WR : va_W), CI g k_h0 k_rd k_tk k_tp k_sp k_dr k_dr_winds k_dr_lees k_dr_gustChances k_dr_gusts k_dr_cloths k_dr_trues k_dr_strengths k_dr_reefs k_dr_cornerNames k_dr_guildNames k_dr_pu k_dr_pu_op k_dr_pu_nu k_dr_pu_st k_dr_ho k_dr_ho_op k_dr_ho_nu k_dr_ho_st k_to k_to_winds k_to_lees k_to_gustChances k_to_gusts k_to_cloths k_to_trues k_to_strengths k_to_reefs k_to_pu k_to_pu_op k_to_pu_nu k_to_pu_st k_to_ho k_to_ho_op k_to_ho_nu k_to_ho_st k_no k_no_or k_no_re k_no_ch k_no_ho k_no_gu k_co k_va k_ou k_tr k_tr_or k_tr_re k_tr_ch k_tr_ho k_tr_gu k_ra k_or_ k_su k_ah k_td k_be k_hi k_sa k_ly k_nu k_si k_s_corners k_s_guilds k_s_wasUp k_s_toldAt k_s_untoldAt k_s_untold k_s_upBehind k_s_fitting k_s_groups k_t2 k_t2_or k_t2_re k_t2_ch k_t2_ho k_t2_gu k_bx k_bf t WC → RI g r_h0 r_m_tape r_m_text r_m_corners r_m_guilds r_m_gusts r_m_units r_m_draw r_m_told r_m_wind r_m_lee r_m_gust r_m_blow r_m_cloth r_m_truth r_m_strong r_m_reefTold r_m_ruleFrom r_m_ruleTo r_m_cName r_m_gName r_m_code r_m_codeNumber r_m_eWhat r_m_eSign r_m_pile r_m_all r_m_was r_m_kept r_m_laidRow r_m_fell r_m_good r_m_least r_m_with r_m_upBy r_m_sCorners r_m_sGuild r_m_sIs r_m_sTold r_m_sUntold r_m_parts r_m_boxAll r_m_isBoxed t WR → va_P g.1 vwCl (WC ++ WR) H → va_D A (WC ++ WR) → va_S A s.heap H locs → lv_has ls 4 [(3, .int (nI i)), (2, .ref r_h0), (1, .ref k_h0), (0, .ref b)] → W p l e room_1 s m #[Value.ref b] below meth c H locs nc ns Q (F0 m 1278 ls [])) : W p l e room_1 s m #[Value.ref b] below meth c H locs nc ns Q (F0 m 338 ls []) := by
  obtain ⟨hx, hb, hml, hr, hlocks, hown, hts, hE, hnm⟩ := id hcx
  refine lv_aload_n hx hb dL_law_338 rfl (lv_at hl 2 rfl) ?_
  refine lv_aload_n hx hb dL_law_339 rfl (lv_at hl 3 rfl) ?_
  refine lv_iload_n hx hb dL_law_340 rfl (lv_at hl 0 rfl) ?_
  refine lv_iconst (v := 1) hx hb dL_law_341 (by decide) ?_
  refine lv_iadd hx hb dL_law_342 ?_
  refine lv_tope (y := (nI (i + 1))) (nI_add (i) (1)) ?_
  refine sc_ld hx hb hX hbl hbA hS (i + 1) rfl (by omega) (by omega) dL_law_343 ?_
  refine lv_aload_n hx hb dL_law_344 rfl (lv_at hl 3 rfl) ?_
  refine lv_iload_n hx hb dL_law_345 rfl (lv_at hl 0 rfl) ?_
  refine lv_iconst (v := 2) hx hb dL_law_346 (by decide) ?_
  refine lv_iadd hx hb dL_law_347 ?_
  refine lv_tope (y := (nI (i + 2))) (nI_add (i) (2)) ?_
  refine sc_ld hx hb hX hbl hbA hS (i + 2) rfl (by omega) (by omega) dL_law_348 ?_
  refine lk_guild ((xs (i + 1))) ((xs (i + 2))) hnc hns hcx hA hl.1 hCI hP hD hS (fun r1 WC H locs hCI hP hD hS => ?_)
  refine lv_pop hx hb dL_law_352 rfl ?_
  refine lv_aload_n hx hb dL_law_353 rfl (lv_at hl 1 rfl) ?_
  refine lv_aload_n hx hb dL_law_354 rfl (lv_at hl 3 rfl) ?_
  refine lv_iload_n hx hb dL_law_355 rfl (lv_at hl 0 rfl) ?_
  refine lv_iconst (v := 1) hx hb dL_law_356 (by decide) ?_
  refine lv_iadd hx hb dL_law_357 ?_
  refine lv_tope (y := (nI (i + 1))) (nI_add (i) (1)) ?_
  refine sc_ld hx hb hX hbl hbA hS (i + 1) rfl (by omega) (by omega) dL_law_358 ?_
  refine lv_aload_n hx hb dL_law_359 rfl (lv_at hl 3 rfl) ?_
  refine lv_iload_n hx hb dL_law_360 rfl (lv_at hl 0 rfl) ?_
  refine lv_iconst (v := 2) hx hb dL_law_361 (by decide) ?_
  refine lv_iadd hx hb dL_law_362 ?_
  refine lv_tope (y := (nI (i + 2))) (nI_add (i) (2)) ?_
  refine sc_ld hx hb hX hbl hbA hS (i + 2) rfl (by omega) (by omega) dL_law_363 ?_
  have hP := P_perm hP List.perm_append_comm
  have hD := D_perm hD List.perm_append_comm
  refine lr_guild ((xs (i + 1))) ((xs (i + 2))) hnc hns hcx hA hl.1 hRI hP hD hS (fun r2 WR H locs hRI hP hD hS => ?_)
  have hP := P_perm hP List.perm_append_comm
  have hD := D_perm hD List.perm_append_comm
  refine lv_pop hx hb dL_law_367 rfl ?_
  refine lv_goto (tgt := 1278) hx hb dL_law_368 (by decide) ?_
  exact kk H locs ls t WC WR hCI hRI hP hD hS hl

set_option maxHeartbeats 4000000 in
set_option maxRecDepth 100000 in
theorem lc_5 {p : Program} {l : Launch} {e : Env} {s : State} {m : MethodId} {below : List Frame} {meth : Method} {c : Code} {g : Gx} {b L : Nat} {xs : Nat → Int32} {A : Nat → Prop} {nc ns : Nat} {z : Sg} {Q : State → Prop} {k_h0 k_rd k_tk k_tp k_sp k_dr k_dr_winds k_dr_lees k_dr_gustChances k_dr_gusts k_dr_cloths k_dr_trues k_dr_strengths k_dr_reefs k_dr_cornerNames k_dr_guildNames k_dr_pu k_dr_pu_op k_dr_pu_nu k_dr_pu_st k_dr_ho k_dr_ho_op k_dr_ho_nu k_dr_ho_st k_to k_to_winds k_to_lees k_to_gustChances k_to_gusts k_to_cloths k_to_trues k_to_strengths k_to_reefs k_to_pu k_to_pu_op k_to_pu_nu k_to_pu_st k_to_ho k_to_ho_op k_to_ho_nu k_to_ho_st k_no k_no_or k_no_re k_no_ch k_no_ho k_no_gu k_co k_va k_ou k_tr k_tr_or k_tr_re k_tr_ch k_tr_ho k_tr_gu k_ra k_or_ k_su k_ah k_td k_be k_hi k_sa k_ly k_nu k_si k_s_corners k_s_guilds k_s_wasUp k_s_toldAt k_s_untoldAt k_s_untold k_s_upBehind k_s_fitting k_s_groups k_t2 k_t2_or k_t2_re k_t2_ch k_t2_ho k_t2_gu k_bx k_bf r_h0 r_m_tape r_m_text r_m_corners r_m_guilds r_m_gusts r_m_units r_m_draw r_m_told r_m_wind r_m_lee r_m_gust r_m_blow r_m_cloth r_m_truth r_m_strong r_m_reefTold r_m_ruleFrom r_m_ruleTo r_m_cName r_m_gName r_m_code r_m_codeNumber r_m_eWhat r_m_eSign r_m_pile r_m_all r_m_was r_m_kept r_m_laidRow r_m_fell r_m_good r_m_least r_m_with r_m_upBy r_m_sCorners r_m_sGuild r_m_sIs r_m_sTold r_m_sUntold r_m_parts r_m_boxAll r_m_isBoxed : Nat} {i : Nat} {H : Heap} {locs : List Loc} {ls : Array Slot} {t : Int32} {WC WR : va_W} (hnc : nc ≤ 10000) (hns : ns ≤ 1000000) (hcx : Cx p s m #[Value.ref b] meth c cL_law 4 ret RL meth.name g) (hF : SEg z A s s.heap) (hX : va_X b L xs s s.heap) (hL : L ≤ 3072) (hbl : b < s.heap.size) (hbA : ¬ A b) (hA : ∀ q : Nat, s.heap.size ≤ q → A q) (hi : i + 6 ≤ L) (hCI : CI g k_h0 k_rd k_tk k_tp k_sp k_dr k_dr_winds k_dr_lees k_dr_gustChances k_dr_gusts k_dr_cloths k_dr_trues k_dr_strengths k_dr_reefs k_dr_cornerNames k_dr_guildNames k_dr_pu k_dr_pu_op k_dr_pu_nu k_dr_pu_st k_dr_ho k_dr_ho_op k_dr_ho_nu k_dr_ho_st k_to k_to_winds k_to_lees k_to_gustChances k_to_gusts k_to_cloths k_to_trues k_to_strengths k_to_reefs k_to_pu k_to_pu_op k_to_pu_nu k_to_pu_st k_to_ho k_to_ho_op k_to_ho_nu k_to_ho_st k_no k_no_or k_no_re k_no_ch k_no_ho k_no_gu k_co k_va k_ou k_tr k_tr_or k_tr_re k_tr_ch k_tr_ho k_tr_gu k_ra k_or_ k_su k_ah k_td k_be k_hi k_sa k_ly k_nu k_si k_s_corners k_s_guilds k_s_wasUp k_s_toldAt k_s_untoldAt k_s_untold k_s_upBehind k_s_fitting k_s_groups k_t2 k_t2_or k_t2_re k_t2_ch k_t2_ho k_t2_gu k_bx k_bf t WC) (hRI : RI g r_h0 r_m_tape r_m_text r_m_corners r_m_guilds r_m_gusts r_m_units r_m_draw r_m_told r_m_wind r_m_lee r_m_gust r_m_blow r_m_cloth r_m_truth r_m_strong r_m_reefTold r_m_ruleFrom r_m_ruleTo r_m_cName r_m_gName r_m_code r_m_codeNumber r_m_eWhat r_m_eSign r_m_pile r_m_all r_m_was r_m_kept r_m_laidRow r_m_fell r_m_good r_m_least r_m_with r_m_upBy r_m_sCorners r_m_sGuild r_m_sIs r_m_sTold r_m_sUntold r_m_parts r_m_boxAll r_m_isBoxed t WR) (hP : va_P g.1 vwCl (WC ++ WR) H) (hD : va_D A (WC ++ WR)) (hS : va_S A s.heap H locs) (hl : lv_has ls 4 [(3, .int (nI i)), (2, .ref r_h0), (1, .ref k_h0), (0, .ref b)])
    (kk : ∀ (H : Heap) (locs : List Loc) (ls : Array Slot) (t : Int32) (WC WR : va_W), CI g k_h0 k_rd k_tk k_tp k_sp k_dr k_dr_winds k_dr_lees k_dr_gustChances k_dr_gusts k_dr_cloths k_dr_trues k_dr_strengths k_dr_reefs k_dr_cornerNames k_dr_guildNames k_dr_pu k_dr_pu_op k_dr_pu_nu k_dr_pu_st k_dr_ho k_dr_ho_op k_dr_ho_nu k_dr_ho_st k_to k_to_winds k_to_lees k_to_gustChances k_to_gusts k_to_cloths k_to_trues k_to_strengths k_to_reefs k_to_pu k_to_pu_op k_to_pu_nu k_to_pu_st k_to_ho k_to_ho_op k_to_ho_nu k_to_ho_st k_no k_no_or k_no_re k_no_ch k_no_ho k_no_gu k_co k_va k_ou k_tr k_tr_or k_tr_re k_tr_ch k_tr_ho k_tr_gu k_ra k_or_ k_su k_ah k_td k_be k_hi k_sa k_ly k_nu k_si k_s_corners k_s_guilds k_s_wasUp k_s_toldAt k_s_untoldAt k_s_untold k_s_upBehind k_s_fitting k_s_groups k_t2 k_t2_or k_t2_re k_t2_ch k_t2_ho k_t2_gu k_bx k_bf t WC → RI g r_h0 r_m_tape r_m_text r_m_corners r_m_guilds r_m_gusts r_m_units r_m_draw r_m_told r_m_wind r_m_lee r_m_gust r_m_blow r_m_cloth r_m_truth r_m_strong r_m_reefTold r_m_ruleFrom r_m_ruleTo r_m_cName r_m_gName r_m_code r_m_codeNumber r_m_eWhat r_m_eSign r_m_pile r_m_all r_m_was r_m_kept r_m_laidRow r_m_fell r_m_good r_m_least r_m_with r_m_upBy r_m_sCorners r_m_sGuild r_m_sIs r_m_sTold r_m_sUntold r_m_parts r_m_boxAll r_m_isBoxed t WR → va_P g.1 vwCl (WC ++ WR) H → va_D A (WC ++ WR) → va_S A s.heap H locs → lv_has ls 4 [(3, .int (nI i)), (2, .ref r_h0), (1, .ref k_h0), (0, .ref b)] → W p l e room_1 s m #[Value.ref b] below meth c H locs nc ns Q (F0 m 1278 ls [])) : W p l e room_1 s m #[Value.ref b] below meth c H locs nc ns Q (F0 m 371 ls []) := by
  obtain ⟨hx, hb, hml, hr, hlocks, hown, hts, hE, hnm⟩ := id hcx
  refine lv_aload_n hx hb dL_law_371 rfl (lv_at hl 2 rfl) ?_
  refine lv_aload_n hx hb dL_law_372 rfl (lv_at hl 3 rfl) ?_
  refine lv_iload_n hx hb dL_law_373 rfl (lv_at hl 0 rfl) ?_
  refine lv_iconst (v := 1) hx hb dL_law_374 (by decide) ?_
  refine lv_iadd hx hb dL_law_375 ?_
  refine lv_tope (y := (nI (i + 1))) (nI_add (i) (1)) ?_
  refine sc_ld hx hb hX hbl hbA hS (i + 1) rfl (by omega) (by omega) dL_law_376 ?_
  refine lv_aload_n hx hb dL_law_377 rfl (lv_at hl 3 rfl) ?_
  refine lv_iload_n hx hb dL_law_378 rfl (lv_at hl 0 rfl) ?_
  refine lv_iconst (v := 2) hx hb dL_law_379 (by decide) ?_
  refine lv_iadd hx hb dL_law_380 ?_
  refine lv_tope (y := (nI (i + 2))) (nI_add (i) (2)) ?_
  refine sc_ld hx hb hX hbl hbA hS (i + 2) rfl (by omega) (by omega) dL_law_381 ?_
  refine lk_corner ((xs (i + 1))) ((xs (i + 2))) hnc hns hcx hA hl.1 hCI hP hD hS (fun r1 WC H locs hCI hP hD hS => ?_)
  refine lv_pop hx hb dL_law_385 rfl ?_
  refine lv_aload_n hx hb dL_law_386 rfl (lv_at hl 1 rfl) ?_
  refine lv_aload_n hx hb dL_law_387 rfl (lv_at hl 3 rfl) ?_
  refine lv_iload_n hx hb dL_law_388 rfl (lv_at hl 0 rfl) ?_
  refine lv_iconst (v := 1) hx hb dL_law_389 (by decide) ?_
  refine lv_iadd hx hb dL_law_390 ?_
  refine lv_tope (y := (nI (i + 1))) (nI_add (i) (1)) ?_
  refine sc_ld hx hb hX hbl hbA hS (i + 1) rfl (by omega) (by omega) dL_law_391 ?_
  refine lv_aload_n hx hb dL_law_392 rfl (lv_at hl 3 rfl) ?_
  refine lv_iload_n hx hb dL_law_393 rfl (lv_at hl 0 rfl) ?_
  refine lv_iconst (v := 2) hx hb dL_law_394 (by decide) ?_
  refine lv_iadd hx hb dL_law_395 ?_
  refine lv_tope (y := (nI (i + 2))) (nI_add (i) (2)) ?_
  refine sc_ld hx hb hX hbl hbA hS (i + 2) rfl (by omega) (by omega) dL_law_396 ?_
  have hP := P_perm hP List.perm_append_comm
  have hD := D_perm hD List.perm_append_comm
  refine lr_corner ((xs (i + 1))) ((xs (i + 2))) hnc hns hcx hA hl.1 hRI hP hD hS (fun r2 WR H locs hRI hP hD hS => ?_)
  have hP := P_perm hP List.perm_append_comm
  have hD := D_perm hD List.perm_append_comm
  refine lv_pop hx hb dL_law_400 rfl ?_
  refine lv_goto (tgt := 1278) hx hb dL_law_401 (by decide) ?_
  exact kk H locs ls t WC WR hCI hRI hP hD hS hl

set_option maxHeartbeats 4000000 in
set_option maxRecDepth 100000 in
theorem lc_6 {p : Program} {l : Launch} {e : Env} {s : State} {m : MethodId} {below : List Frame} {meth : Method} {c : Code} {g : Gx} {b L : Nat} {xs : Nat → Int32} {A : Nat → Prop} {nc ns : Nat} {z : Sg} {Q : State → Prop} {k_h0 k_rd k_tk k_tp k_sp k_dr k_dr_winds k_dr_lees k_dr_gustChances k_dr_gusts k_dr_cloths k_dr_trues k_dr_strengths k_dr_reefs k_dr_cornerNames k_dr_guildNames k_dr_pu k_dr_pu_op k_dr_pu_nu k_dr_pu_st k_dr_ho k_dr_ho_op k_dr_ho_nu k_dr_ho_st k_to k_to_winds k_to_lees k_to_gustChances k_to_gusts k_to_cloths k_to_trues k_to_strengths k_to_reefs k_to_pu k_to_pu_op k_to_pu_nu k_to_pu_st k_to_ho k_to_ho_op k_to_ho_nu k_to_ho_st k_no k_no_or k_no_re k_no_ch k_no_ho k_no_gu k_co k_va k_ou k_tr k_tr_or k_tr_re k_tr_ch k_tr_ho k_tr_gu k_ra k_or_ k_su k_ah k_td k_be k_hi k_sa k_ly k_nu k_si k_s_corners k_s_guilds k_s_wasUp k_s_toldAt k_s_untoldAt k_s_untold k_s_upBehind k_s_fitting k_s_groups k_t2 k_t2_or k_t2_re k_t2_ch k_t2_ho k_t2_gu k_bx k_bf r_h0 r_m_tape r_m_text r_m_corners r_m_guilds r_m_gusts r_m_units r_m_draw r_m_told r_m_wind r_m_lee r_m_gust r_m_blow r_m_cloth r_m_truth r_m_strong r_m_reefTold r_m_ruleFrom r_m_ruleTo r_m_cName r_m_gName r_m_code r_m_codeNumber r_m_eWhat r_m_eSign r_m_pile r_m_all r_m_was r_m_kept r_m_laidRow r_m_fell r_m_good r_m_least r_m_with r_m_upBy r_m_sCorners r_m_sGuild r_m_sIs r_m_sTold r_m_sUntold r_m_parts r_m_boxAll r_m_isBoxed : Nat} {i : Nat} {H : Heap} {locs : List Loc} {ls : Array Slot} {t : Int32} {WC WR : va_W} (hnc : nc ≤ 10000) (hns : ns ≤ 1000000) (hcx : Cx p s m #[Value.ref b] meth c cL_law 4 ret RL meth.name g) (hF : SEg z A s s.heap) (hX : va_X b L xs s s.heap) (hL : L ≤ 3072) (hbl : b < s.heap.size) (hbA : ¬ A b) (hA : ∀ q : Nat, s.heap.size ≤ q → A q) (hi : i + 6 ≤ L) (hCI : CI g k_h0 k_rd k_tk k_tp k_sp k_dr k_dr_winds k_dr_lees k_dr_gustChances k_dr_gusts k_dr_cloths k_dr_trues k_dr_strengths k_dr_reefs k_dr_cornerNames k_dr_guildNames k_dr_pu k_dr_pu_op k_dr_pu_nu k_dr_pu_st k_dr_ho k_dr_ho_op k_dr_ho_nu k_dr_ho_st k_to k_to_winds k_to_lees k_to_gustChances k_to_gusts k_to_cloths k_to_trues k_to_strengths k_to_reefs k_to_pu k_to_pu_op k_to_pu_nu k_to_pu_st k_to_ho k_to_ho_op k_to_ho_nu k_to_ho_st k_no k_no_or k_no_re k_no_ch k_no_ho k_no_gu k_co k_va k_ou k_tr k_tr_or k_tr_re k_tr_ch k_tr_ho k_tr_gu k_ra k_or_ k_su k_ah k_td k_be k_hi k_sa k_ly k_nu k_si k_s_corners k_s_guilds k_s_wasUp k_s_toldAt k_s_untoldAt k_s_untold k_s_upBehind k_s_fitting k_s_groups k_t2 k_t2_or k_t2_re k_t2_ch k_t2_ho k_t2_gu k_bx k_bf t WC) (hRI : RI g r_h0 r_m_tape r_m_text r_m_corners r_m_guilds r_m_gusts r_m_units r_m_draw r_m_told r_m_wind r_m_lee r_m_gust r_m_blow r_m_cloth r_m_truth r_m_strong r_m_reefTold r_m_ruleFrom r_m_ruleTo r_m_cName r_m_gName r_m_code r_m_codeNumber r_m_eWhat r_m_eSign r_m_pile r_m_all r_m_was r_m_kept r_m_laidRow r_m_fell r_m_good r_m_least r_m_with r_m_upBy r_m_sCorners r_m_sGuild r_m_sIs r_m_sTold r_m_sUntold r_m_parts r_m_boxAll r_m_isBoxed t WR) (hP : va_P g.1 vwCl (WC ++ WR) H) (hD : va_D A (WC ++ WR)) (hS : va_S A s.heap H locs) (hl : lv_has ls 4 [(3, .int (nI i)), (2, .ref r_h0), (1, .ref k_h0), (0, .ref b)])
    (kk : ∀ (H : Heap) (locs : List Loc) (ls : Array Slot) (t : Int32) (WC WR : va_W), CI g k_h0 k_rd k_tk k_tp k_sp k_dr k_dr_winds k_dr_lees k_dr_gustChances k_dr_gusts k_dr_cloths k_dr_trues k_dr_strengths k_dr_reefs k_dr_cornerNames k_dr_guildNames k_dr_pu k_dr_pu_op k_dr_pu_nu k_dr_pu_st k_dr_ho k_dr_ho_op k_dr_ho_nu k_dr_ho_st k_to k_to_winds k_to_lees k_to_gustChances k_to_gusts k_to_cloths k_to_trues k_to_strengths k_to_reefs k_to_pu k_to_pu_op k_to_pu_nu k_to_pu_st k_to_ho k_to_ho_op k_to_ho_nu k_to_ho_st k_no k_no_or k_no_re k_no_ch k_no_ho k_no_gu k_co k_va k_ou k_tr k_tr_or k_tr_re k_tr_ch k_tr_ho k_tr_gu k_ra k_or_ k_su k_ah k_td k_be k_hi k_sa k_ly k_nu k_si k_s_corners k_s_guilds k_s_wasUp k_s_toldAt k_s_untoldAt k_s_untold k_s_upBehind k_s_fitting k_s_groups k_t2 k_t2_or k_t2_re k_t2_ch k_t2_ho k_t2_gu k_bx k_bf t WC → RI g r_h0 r_m_tape r_m_text r_m_corners r_m_guilds r_m_gusts r_m_units r_m_draw r_m_told r_m_wind r_m_lee r_m_gust r_m_blow r_m_cloth r_m_truth r_m_strong r_m_reefTold r_m_ruleFrom r_m_ruleTo r_m_cName r_m_gName r_m_code r_m_codeNumber r_m_eWhat r_m_eSign r_m_pile r_m_all r_m_was r_m_kept r_m_laidRow r_m_fell r_m_good r_m_least r_m_with r_m_upBy r_m_sCorners r_m_sGuild r_m_sIs r_m_sTold r_m_sUntold r_m_parts r_m_boxAll r_m_isBoxed t WR → va_P g.1 vwCl (WC ++ WR) H → va_D A (WC ++ WR) → va_S A s.heap H locs → lv_has ls 4 [(3, .int (nI i)), (2, .ref r_h0), (1, .ref k_h0), (0, .ref b)] → W p l e room_1 s m #[Value.ref b] below meth c H locs nc ns Q (F0 m 1278 ls [])) : W p l e room_1 s m #[Value.ref b] below meth c H locs nc ns Q (F0 m 404 ls []) := by
  obtain ⟨hx, hb, hml, hr, hlocks, hown, hts, hE, hnm⟩ := id hcx
  refine lv_aload_n hx hb dL_law_404 rfl (lv_at hl 2 rfl) ?_
  refine lv_aload_n hx hb dL_law_405 rfl (lv_at hl 3 rfl) ?_
  refine lv_iload_n hx hb dL_law_406 rfl (lv_at hl 0 rfl) ?_
  refine lv_iconst (v := 1) hx hb dL_law_407 (by decide) ?_
  refine lv_iadd hx hb dL_law_408 ?_
  refine lv_tope (y := (nI (i + 1))) (nI_add (i) (1)) ?_
  refine sc_ld hx hb hX hbl hbA hS (i + 1) rfl (by omega) (by omega) dL_law_409 ?_
  refine lk_place ((xs (i + 1))) hnc hns hcx hA hl.1 hCI hP hD hS (fun r1 WC H locs hCI hP hD hS => ?_)
  refine lv_pop hx hb dL_law_413 rfl ?_
  refine lv_aload_n hx hb dL_law_414 rfl (lv_at hl 1 rfl) ?_
  refine lv_aload_n hx hb dL_law_415 rfl (lv_at hl 3 rfl) ?_
  refine lv_iload_n hx hb dL_law_416 rfl (lv_at hl 0 rfl) ?_
  refine lv_iconst (v := 1) hx hb dL_law_417 (by decide) ?_
  refine lv_iadd hx hb dL_law_418 ?_
  refine lv_tope (y := (nI (i + 1))) (nI_add (i) (1)) ?_
  refine sc_ld hx hb hX hbl hbA hS (i + 1) rfl (by omega) (by omega) dL_law_419 ?_
  have hP := P_perm hP List.perm_append_comm
  have hD := D_perm hD List.perm_append_comm
  refine lr_place ((xs (i + 1))) hnc hns hcx hA hl.1 hRI hP hD hS (fun r2 WR H locs hRI hP hD hS => ?_)
  have hP := P_perm hP List.perm_append_comm
  have hD := D_perm hD List.perm_append_comm
  refine lv_pop hx hb dL_law_423 rfl ?_
  refine lv_goto (tgt := 1278) hx hb dL_law_424 (by decide) ?_
  exact kk H locs ls t WC WR hCI hRI hP hD hS hl

set_option maxHeartbeats 4000000 in
set_option maxRecDepth 100000 in
theorem lc_7 {p : Program} {l : Launch} {e : Env} {s : State} {m : MethodId} {below : List Frame} {meth : Method} {c : Code} {g : Gx} {b L : Nat} {xs : Nat → Int32} {A : Nat → Prop} {nc ns : Nat} {z : Sg} {Q : State → Prop} {k_h0 k_rd k_tk k_tp k_sp k_dr k_dr_winds k_dr_lees k_dr_gustChances k_dr_gusts k_dr_cloths k_dr_trues k_dr_strengths k_dr_reefs k_dr_cornerNames k_dr_guildNames k_dr_pu k_dr_pu_op k_dr_pu_nu k_dr_pu_st k_dr_ho k_dr_ho_op k_dr_ho_nu k_dr_ho_st k_to k_to_winds k_to_lees k_to_gustChances k_to_gusts k_to_cloths k_to_trues k_to_strengths k_to_reefs k_to_pu k_to_pu_op k_to_pu_nu k_to_pu_st k_to_ho k_to_ho_op k_to_ho_nu k_to_ho_st k_no k_no_or k_no_re k_no_ch k_no_ho k_no_gu k_co k_va k_ou k_tr k_tr_or k_tr_re k_tr_ch k_tr_ho k_tr_gu k_ra k_or_ k_su k_ah k_td k_be k_hi k_sa k_ly k_nu k_si k_s_corners k_s_guilds k_s_wasUp k_s_toldAt k_s_untoldAt k_s_untold k_s_upBehind k_s_fitting k_s_groups k_t2 k_t2_or k_t2_re k_t2_ch k_t2_ho k_t2_gu k_bx k_bf r_h0 r_m_tape r_m_text r_m_corners r_m_guilds r_m_gusts r_m_units r_m_draw r_m_told r_m_wind r_m_lee r_m_gust r_m_blow r_m_cloth r_m_truth r_m_strong r_m_reefTold r_m_ruleFrom r_m_ruleTo r_m_cName r_m_gName r_m_code r_m_codeNumber r_m_eWhat r_m_eSign r_m_pile r_m_all r_m_was r_m_kept r_m_laidRow r_m_fell r_m_good r_m_least r_m_with r_m_upBy r_m_sCorners r_m_sGuild r_m_sIs r_m_sTold r_m_sUntold r_m_parts r_m_boxAll r_m_isBoxed : Nat} {i : Nat} {H : Heap} {locs : List Loc} {ls : Array Slot} {t : Int32} {WC WR : va_W} (hnc : nc ≤ 10000) (hns : ns ≤ 1000000) (hcx : Cx p s m #[Value.ref b] meth c cL_law 4 ret RL meth.name g) (hF : SEg z A s s.heap) (hX : va_X b L xs s s.heap) (hL : L ≤ 3072) (hbl : b < s.heap.size) (hbA : ¬ A b) (hA : ∀ q : Nat, s.heap.size ≤ q → A q) (hi : i + 6 ≤ L) (hCI : CI g k_h0 k_rd k_tk k_tp k_sp k_dr k_dr_winds k_dr_lees k_dr_gustChances k_dr_gusts k_dr_cloths k_dr_trues k_dr_strengths k_dr_reefs k_dr_cornerNames k_dr_guildNames k_dr_pu k_dr_pu_op k_dr_pu_nu k_dr_pu_st k_dr_ho k_dr_ho_op k_dr_ho_nu k_dr_ho_st k_to k_to_winds k_to_lees k_to_gustChances k_to_gusts k_to_cloths k_to_trues k_to_strengths k_to_reefs k_to_pu k_to_pu_op k_to_pu_nu k_to_pu_st k_to_ho k_to_ho_op k_to_ho_nu k_to_ho_st k_no k_no_or k_no_re k_no_ch k_no_ho k_no_gu k_co k_va k_ou k_tr k_tr_or k_tr_re k_tr_ch k_tr_ho k_tr_gu k_ra k_or_ k_su k_ah k_td k_be k_hi k_sa k_ly k_nu k_si k_s_corners k_s_guilds k_s_wasUp k_s_toldAt k_s_untoldAt k_s_untold k_s_upBehind k_s_fitting k_s_groups k_t2 k_t2_or k_t2_re k_t2_ch k_t2_ho k_t2_gu k_bx k_bf t WC) (hRI : RI g r_h0 r_m_tape r_m_text r_m_corners r_m_guilds r_m_gusts r_m_units r_m_draw r_m_told r_m_wind r_m_lee r_m_gust r_m_blow r_m_cloth r_m_truth r_m_strong r_m_reefTold r_m_ruleFrom r_m_ruleTo r_m_cName r_m_gName r_m_code r_m_codeNumber r_m_eWhat r_m_eSign r_m_pile r_m_all r_m_was r_m_kept r_m_laidRow r_m_fell r_m_good r_m_least r_m_with r_m_upBy r_m_sCorners r_m_sGuild r_m_sIs r_m_sTold r_m_sUntold r_m_parts r_m_boxAll r_m_isBoxed t WR) (hP : va_P g.1 vwCl (WC ++ WR) H) (hD : va_D A (WC ++ WR)) (hS : va_S A s.heap H locs) (hl : lv_has ls 4 [(3, .int (nI i)), (2, .ref r_h0), (1, .ref k_h0), (0, .ref b)])
    (kk : ∀ (H : Heap) (locs : List Loc) (ls : Array Slot) (t : Int32) (WC WR : va_W), CI g k_h0 k_rd k_tk k_tp k_sp k_dr k_dr_winds k_dr_lees k_dr_gustChances k_dr_gusts k_dr_cloths k_dr_trues k_dr_strengths k_dr_reefs k_dr_cornerNames k_dr_guildNames k_dr_pu k_dr_pu_op k_dr_pu_nu k_dr_pu_st k_dr_ho k_dr_ho_op k_dr_ho_nu k_dr_ho_st k_to k_to_winds k_to_lees k_to_gustChances k_to_gusts k_to_cloths k_to_trues k_to_strengths k_to_reefs k_to_pu k_to_pu_op k_to_pu_nu k_to_pu_st k_to_ho k_to_ho_op k_to_ho_nu k_to_ho_st k_no k_no_or k_no_re k_no_ch k_no_ho k_no_gu k_co k_va k_ou k_tr k_tr_or k_tr_re k_tr_ch k_tr_ho k_tr_gu k_ra k_or_ k_su k_ah k_td k_be k_hi k_sa k_ly k_nu k_si k_s_corners k_s_guilds k_s_wasUp k_s_toldAt k_s_untoldAt k_s_untold k_s_upBehind k_s_fitting k_s_groups k_t2 k_t2_or k_t2_re k_t2_ch k_t2_ho k_t2_gu k_bx k_bf t WC → RI g r_h0 r_m_tape r_m_text r_m_corners r_m_guilds r_m_gusts r_m_units r_m_draw r_m_told r_m_wind r_m_lee r_m_gust r_m_blow r_m_cloth r_m_truth r_m_strong r_m_reefTold r_m_ruleFrom r_m_ruleTo r_m_cName r_m_gName r_m_code r_m_codeNumber r_m_eWhat r_m_eSign r_m_pile r_m_all r_m_was r_m_kept r_m_laidRow r_m_fell r_m_good r_m_least r_m_with r_m_upBy r_m_sCorners r_m_sGuild r_m_sIs r_m_sTold r_m_sUntold r_m_parts r_m_boxAll r_m_isBoxed t WR → va_P g.1 vwCl (WC ++ WR) H → va_D A (WC ++ WR) → va_S A s.heap H locs → lv_has ls 4 [(3, .int (nI i)), (2, .ref r_h0), (1, .ref k_h0), (0, .ref b)] → W p l e room_1 s m #[Value.ref b] below meth c H locs nc ns Q (F0 m 1278 ls [])) : W p l e room_1 s m #[Value.ref b] below meth c H locs nc ns Q (F0 m 427 ls []) := by
  obtain ⟨hx, hb, hml, hr, hlocks, hown, hts, hE, hnm⟩ := id hcx
  refine lv_aload_n hx hb dL_law_427 rfl (lv_at hl 2 rfl) ?_
  refine lv_aload_n hx hb dL_law_428 rfl (lv_at hl 3 rfl) ?_
  refine lv_iload_n hx hb dL_law_429 rfl (lv_at hl 0 rfl) ?_
  refine lv_iconst (v := 1) hx hb dL_law_430 (by decide) ?_
  refine lv_iadd hx hb dL_law_431 ?_
  refine lv_tope (y := (nI (i + 1))) (nI_add (i) (1)) ?_
  refine sc_ld hx hb hX hbl hbA hS (i + 1) rfl (by omega) (by omega) dL_law_432 ?_
  refine lv_aload_n hx hb dL_law_433 rfl (lv_at hl 3 rfl) ?_
  refine lv_iload_n hx hb dL_law_434 rfl (lv_at hl 0 rfl) ?_
  refine lv_iconst (v := 2) hx hb dL_law_435 (by decide) ?_
  refine lv_iadd hx hb dL_law_436 ?_
  refine lv_tope (y := (nI (i + 2))) (nI_add (i) (2)) ?_
  refine sc_ld hx hb hX hbl hbA hS (i + 2) rfl (by omega) (by omega) dL_law_437 ?_
  refine lk_strain ((xs (i + 1))) ((xs (i + 2))) hnc hns hcx hA hl.1 hCI hP hD hS (fun r1 WC H locs hCI hP hD hS => ?_)
  refine lv_pop hx hb dL_law_441 rfl ?_
  refine lv_aload_n hx hb dL_law_442 rfl (lv_at hl 1 rfl) ?_
  refine lv_aload_n hx hb dL_law_443 rfl (lv_at hl 3 rfl) ?_
  refine lv_iload_n hx hb dL_law_444 rfl (lv_at hl 0 rfl) ?_
  refine lv_iconst (v := 1) hx hb dL_law_445 (by decide) ?_
  refine lv_iadd hx hb dL_law_446 ?_
  refine lv_tope (y := (nI (i + 1))) (nI_add (i) (1)) ?_
  refine sc_ld hx hb hX hbl hbA hS (i + 1) rfl (by omega) (by omega) dL_law_447 ?_
  refine lv_aload_n hx hb dL_law_448 rfl (lv_at hl 3 rfl) ?_
  refine lv_iload_n hx hb dL_law_449 rfl (lv_at hl 0 rfl) ?_
  refine lv_iconst (v := 2) hx hb dL_law_450 (by decide) ?_
  refine lv_iadd hx hb dL_law_451 ?_
  refine lv_tope (y := (nI (i + 2))) (nI_add (i) (2)) ?_
  refine sc_ld hx hb hX hbl hbA hS (i + 2) rfl (by omega) (by omega) dL_law_452 ?_
  have hP := P_perm hP List.perm_append_comm
  have hD := D_perm hD List.perm_append_comm
  refine lr_strain ((xs (i + 1))) ((xs (i + 2))) hnc hns hcx hA hl.1 hRI hP hD hS (fun r2 WR H locs hRI hP hD hS => ?_)
  have hP := P_perm hP List.perm_append_comm
  have hD := D_perm hD List.perm_append_comm
  refine lv_pop hx hb dL_law_456 rfl ?_
  refine lv_goto (tgt := 1278) hx hb dL_law_457 (by decide) ?_
  exact kk H locs ls t WC WR hCI hRI hP hD hS hl

set_option maxHeartbeats 4000000 in
set_option maxRecDepth 100000 in
theorem lc_8 {p : Program} {l : Launch} {e : Env} {s : State} {m : MethodId} {below : List Frame} {meth : Method} {c : Code} {g : Gx} {b L : Nat} {xs : Nat → Int32} {A : Nat → Prop} {nc ns : Nat} {z : Sg} {Q : State → Prop} {k_h0 k_rd k_tk k_tp k_sp k_dr k_dr_winds k_dr_lees k_dr_gustChances k_dr_gusts k_dr_cloths k_dr_trues k_dr_strengths k_dr_reefs k_dr_cornerNames k_dr_guildNames k_dr_pu k_dr_pu_op k_dr_pu_nu k_dr_pu_st k_dr_ho k_dr_ho_op k_dr_ho_nu k_dr_ho_st k_to k_to_winds k_to_lees k_to_gustChances k_to_gusts k_to_cloths k_to_trues k_to_strengths k_to_reefs k_to_pu k_to_pu_op k_to_pu_nu k_to_pu_st k_to_ho k_to_ho_op k_to_ho_nu k_to_ho_st k_no k_no_or k_no_re k_no_ch k_no_ho k_no_gu k_co k_va k_ou k_tr k_tr_or k_tr_re k_tr_ch k_tr_ho k_tr_gu k_ra k_or_ k_su k_ah k_td k_be k_hi k_sa k_ly k_nu k_si k_s_corners k_s_guilds k_s_wasUp k_s_toldAt k_s_untoldAt k_s_untold k_s_upBehind k_s_fitting k_s_groups k_t2 k_t2_or k_t2_re k_t2_ch k_t2_ho k_t2_gu k_bx k_bf r_h0 r_m_tape r_m_text r_m_corners r_m_guilds r_m_gusts r_m_units r_m_draw r_m_told r_m_wind r_m_lee r_m_gust r_m_blow r_m_cloth r_m_truth r_m_strong r_m_reefTold r_m_ruleFrom r_m_ruleTo r_m_cName r_m_gName r_m_code r_m_codeNumber r_m_eWhat r_m_eSign r_m_pile r_m_all r_m_was r_m_kept r_m_laidRow r_m_fell r_m_good r_m_least r_m_with r_m_upBy r_m_sCorners r_m_sGuild r_m_sIs r_m_sTold r_m_sUntold r_m_parts r_m_boxAll r_m_isBoxed : Nat} {i : Nat} {H : Heap} {locs : List Loc} {ls : Array Slot} {t : Int32} {WC WR : va_W} (hnc : nc ≤ 10000) (hns : ns ≤ 1000000) (hcx : Cx p s m #[Value.ref b] meth c cL_law 4 ret RL meth.name g) (hF : SEg z A s s.heap) (hX : va_X b L xs s s.heap) (hL : L ≤ 3072) (hbl : b < s.heap.size) (hbA : ¬ A b) (hA : ∀ q : Nat, s.heap.size ≤ q → A q) (hi : i + 6 ≤ L) (hCI : CI g k_h0 k_rd k_tk k_tp k_sp k_dr k_dr_winds k_dr_lees k_dr_gustChances k_dr_gusts k_dr_cloths k_dr_trues k_dr_strengths k_dr_reefs k_dr_cornerNames k_dr_guildNames k_dr_pu k_dr_pu_op k_dr_pu_nu k_dr_pu_st k_dr_ho k_dr_ho_op k_dr_ho_nu k_dr_ho_st k_to k_to_winds k_to_lees k_to_gustChances k_to_gusts k_to_cloths k_to_trues k_to_strengths k_to_reefs k_to_pu k_to_pu_op k_to_pu_nu k_to_pu_st k_to_ho k_to_ho_op k_to_ho_nu k_to_ho_st k_no k_no_or k_no_re k_no_ch k_no_ho k_no_gu k_co k_va k_ou k_tr k_tr_or k_tr_re k_tr_ch k_tr_ho k_tr_gu k_ra k_or_ k_su k_ah k_td k_be k_hi k_sa k_ly k_nu k_si k_s_corners k_s_guilds k_s_wasUp k_s_toldAt k_s_untoldAt k_s_untold k_s_upBehind k_s_fitting k_s_groups k_t2 k_t2_or k_t2_re k_t2_ch k_t2_ho k_t2_gu k_bx k_bf t WC) (hRI : RI g r_h0 r_m_tape r_m_text r_m_corners r_m_guilds r_m_gusts r_m_units r_m_draw r_m_told r_m_wind r_m_lee r_m_gust r_m_blow r_m_cloth r_m_truth r_m_strong r_m_reefTold r_m_ruleFrom r_m_ruleTo r_m_cName r_m_gName r_m_code r_m_codeNumber r_m_eWhat r_m_eSign r_m_pile r_m_all r_m_was r_m_kept r_m_laidRow r_m_fell r_m_good r_m_least r_m_with r_m_upBy r_m_sCorners r_m_sGuild r_m_sIs r_m_sTold r_m_sUntold r_m_parts r_m_boxAll r_m_isBoxed t WR) (hP : va_P g.1 vwCl (WC ++ WR) H) (hD : va_D A (WC ++ WR)) (hS : va_S A s.heap H locs) (hl : lv_has ls 4 [(3, .int (nI i)), (2, .ref r_h0), (1, .ref k_h0), (0, .ref b)])
    (kk : ∀ (H : Heap) (locs : List Loc) (ls : Array Slot) (t : Int32) (WC WR : va_W), CI g k_h0 k_rd k_tk k_tp k_sp k_dr k_dr_winds k_dr_lees k_dr_gustChances k_dr_gusts k_dr_cloths k_dr_trues k_dr_strengths k_dr_reefs k_dr_cornerNames k_dr_guildNames k_dr_pu k_dr_pu_op k_dr_pu_nu k_dr_pu_st k_dr_ho k_dr_ho_op k_dr_ho_nu k_dr_ho_st k_to k_to_winds k_to_lees k_to_gustChances k_to_gusts k_to_cloths k_to_trues k_to_strengths k_to_reefs k_to_pu k_to_pu_op k_to_pu_nu k_to_pu_st k_to_ho k_to_ho_op k_to_ho_nu k_to_ho_st k_no k_no_or k_no_re k_no_ch k_no_ho k_no_gu k_co k_va k_ou k_tr k_tr_or k_tr_re k_tr_ch k_tr_ho k_tr_gu k_ra k_or_ k_su k_ah k_td k_be k_hi k_sa k_ly k_nu k_si k_s_corners k_s_guilds k_s_wasUp k_s_toldAt k_s_untoldAt k_s_untold k_s_upBehind k_s_fitting k_s_groups k_t2 k_t2_or k_t2_re k_t2_ch k_t2_ho k_t2_gu k_bx k_bf t WC → RI g r_h0 r_m_tape r_m_text r_m_corners r_m_guilds r_m_gusts r_m_units r_m_draw r_m_told r_m_wind r_m_lee r_m_gust r_m_blow r_m_cloth r_m_truth r_m_strong r_m_reefTold r_m_ruleFrom r_m_ruleTo r_m_cName r_m_gName r_m_code r_m_codeNumber r_m_eWhat r_m_eSign r_m_pile r_m_all r_m_was r_m_kept r_m_laidRow r_m_fell r_m_good r_m_least r_m_with r_m_upBy r_m_sCorners r_m_sGuild r_m_sIs r_m_sTold r_m_sUntold r_m_parts r_m_boxAll r_m_isBoxed t WR → va_P g.1 vwCl (WC ++ WR) H → va_D A (WC ++ WR) → va_S A s.heap H locs → lv_has ls 4 [(3, .int (nI i)), (2, .ref r_h0), (1, .ref k_h0), (0, .ref b)] → W p l e room_1 s m #[Value.ref b] below meth c H locs nc ns Q (F0 m 1278 ls [])) : W p l e room_1 s m #[Value.ref b] below meth c H locs nc ns Q (F0 m 460 ls []) := by
  obtain ⟨hx, hb, hml, hr, hlocks, hown, hts, hE, hnm⟩ := id hcx
  refine lv_aload_n hx hb dL_law_460 rfl (lv_at hl 2 rfl) ?_
  refine lk_step hnc hns hcx hA hl.1 hCI hP hD hS (fun r1 WC H locs hCI hP hD hS => ?_)
  refine lv_pop hx hb dL_law_464 rfl ?_
  refine lv_aload_n hx hb dL_law_465 rfl (lv_at hl 1 rfl) ?_
  have hP := P_perm hP List.perm_append_comm
  have hD := D_perm hD List.perm_append_comm
  refine lr_step hnc hns hcx hA hl.1 hRI hP hD hS (fun r2 WR H locs hRI hP hD hS => ?_)
  have hP := P_perm hP List.perm_append_comm
  have hD := D_perm hD List.perm_append_comm
  refine lv_pop hx hb dL_law_469 rfl ?_
  refine lv_goto (tgt := 1278) hx hb dL_law_470 (by decide) ?_
  exact kk H locs ls t WC WR hCI hRI hP hD hS hl

set_option maxHeartbeats 4000000 in
set_option maxRecDepth 100000 in
theorem lc_9 {p : Program} {l : Launch} {e : Env} {s : State} {m : MethodId} {below : List Frame} {meth : Method} {c : Code} {g : Gx} {b L : Nat} {xs : Nat → Int32} {A : Nat → Prop} {nc ns : Nat} {z : Sg} {Q : State → Prop} {k_h0 k_rd k_tk k_tp k_sp k_dr k_dr_winds k_dr_lees k_dr_gustChances k_dr_gusts k_dr_cloths k_dr_trues k_dr_strengths k_dr_reefs k_dr_cornerNames k_dr_guildNames k_dr_pu k_dr_pu_op k_dr_pu_nu k_dr_pu_st k_dr_ho k_dr_ho_op k_dr_ho_nu k_dr_ho_st k_to k_to_winds k_to_lees k_to_gustChances k_to_gusts k_to_cloths k_to_trues k_to_strengths k_to_reefs k_to_pu k_to_pu_op k_to_pu_nu k_to_pu_st k_to_ho k_to_ho_op k_to_ho_nu k_to_ho_st k_no k_no_or k_no_re k_no_ch k_no_ho k_no_gu k_co k_va k_ou k_tr k_tr_or k_tr_re k_tr_ch k_tr_ho k_tr_gu k_ra k_or_ k_su k_ah k_td k_be k_hi k_sa k_ly k_nu k_si k_s_corners k_s_guilds k_s_wasUp k_s_toldAt k_s_untoldAt k_s_untold k_s_upBehind k_s_fitting k_s_groups k_t2 k_t2_or k_t2_re k_t2_ch k_t2_ho k_t2_gu k_bx k_bf r_h0 r_m_tape r_m_text r_m_corners r_m_guilds r_m_gusts r_m_units r_m_draw r_m_told r_m_wind r_m_lee r_m_gust r_m_blow r_m_cloth r_m_truth r_m_strong r_m_reefTold r_m_ruleFrom r_m_ruleTo r_m_cName r_m_gName r_m_code r_m_codeNumber r_m_eWhat r_m_eSign r_m_pile r_m_all r_m_was r_m_kept r_m_laidRow r_m_fell r_m_good r_m_least r_m_with r_m_upBy r_m_sCorners r_m_sGuild r_m_sIs r_m_sTold r_m_sUntold r_m_parts r_m_boxAll r_m_isBoxed : Nat} {i : Nat} {H : Heap} {locs : List Loc} {ls : Array Slot} {t : Int32} {WC WR : va_W} (hnc : nc ≤ 10000) (hns : ns ≤ 1000000) (hcx : Cx p s m #[Value.ref b] meth c cL_law 4 ret RL meth.name g) (hF : SEg z A s s.heap) (hX : va_X b L xs s s.heap) (hL : L ≤ 3072) (hbl : b < s.heap.size) (hbA : ¬ A b) (hA : ∀ q : Nat, s.heap.size ≤ q → A q) (hi : i + 6 ≤ L) (hCI : CI g k_h0 k_rd k_tk k_tp k_sp k_dr k_dr_winds k_dr_lees k_dr_gustChances k_dr_gusts k_dr_cloths k_dr_trues k_dr_strengths k_dr_reefs k_dr_cornerNames k_dr_guildNames k_dr_pu k_dr_pu_op k_dr_pu_nu k_dr_pu_st k_dr_ho k_dr_ho_op k_dr_ho_nu k_dr_ho_st k_to k_to_winds k_to_lees k_to_gustChances k_to_gusts k_to_cloths k_to_trues k_to_strengths k_to_reefs k_to_pu k_to_pu_op k_to_pu_nu k_to_pu_st k_to_ho k_to_ho_op k_to_ho_nu k_to_ho_st k_no k_no_or k_no_re k_no_ch k_no_ho k_no_gu k_co k_va k_ou k_tr k_tr_or k_tr_re k_tr_ch k_tr_ho k_tr_gu k_ra k_or_ k_su k_ah k_td k_be k_hi k_sa k_ly k_nu k_si k_s_corners k_s_guilds k_s_wasUp k_s_toldAt k_s_untoldAt k_s_untold k_s_upBehind k_s_fitting k_s_groups k_t2 k_t2_or k_t2_re k_t2_ch k_t2_ho k_t2_gu k_bx k_bf t WC) (hRI : RI g r_h0 r_m_tape r_m_text r_m_corners r_m_guilds r_m_gusts r_m_units r_m_draw r_m_told r_m_wind r_m_lee r_m_gust r_m_blow r_m_cloth r_m_truth r_m_strong r_m_reefTold r_m_ruleFrom r_m_ruleTo r_m_cName r_m_gName r_m_code r_m_codeNumber r_m_eWhat r_m_eSign r_m_pile r_m_all r_m_was r_m_kept r_m_laidRow r_m_fell r_m_good r_m_least r_m_with r_m_upBy r_m_sCorners r_m_sGuild r_m_sIs r_m_sTold r_m_sUntold r_m_parts r_m_boxAll r_m_isBoxed t WR) (hP : va_P g.1 vwCl (WC ++ WR) H) (hD : va_D A (WC ++ WR)) (hS : va_S A s.heap H locs) (hl : lv_has ls 4 [(3, .int (nI i)), (2, .ref r_h0), (1, .ref k_h0), (0, .ref b)])
    (kk : ∀ (H : Heap) (locs : List Loc) (ls : Array Slot) (t : Int32) (WC WR : va_W), CI g k_h0 k_rd k_tk k_tp k_sp k_dr k_dr_winds k_dr_lees k_dr_gustChances k_dr_gusts k_dr_cloths k_dr_trues k_dr_strengths k_dr_reefs k_dr_cornerNames k_dr_guildNames k_dr_pu k_dr_pu_op k_dr_pu_nu k_dr_pu_st k_dr_ho k_dr_ho_op k_dr_ho_nu k_dr_ho_st k_to k_to_winds k_to_lees k_to_gustChances k_to_gusts k_to_cloths k_to_trues k_to_strengths k_to_reefs k_to_pu k_to_pu_op k_to_pu_nu k_to_pu_st k_to_ho k_to_ho_op k_to_ho_nu k_to_ho_st k_no k_no_or k_no_re k_no_ch k_no_ho k_no_gu k_co k_va k_ou k_tr k_tr_or k_tr_re k_tr_ch k_tr_ho k_tr_gu k_ra k_or_ k_su k_ah k_td k_be k_hi k_sa k_ly k_nu k_si k_s_corners k_s_guilds k_s_wasUp k_s_toldAt k_s_untoldAt k_s_untold k_s_upBehind k_s_fitting k_s_groups k_t2 k_t2_or k_t2_re k_t2_ch k_t2_ho k_t2_gu k_bx k_bf t WC → RI g r_h0 r_m_tape r_m_text r_m_corners r_m_guilds r_m_gusts r_m_units r_m_draw r_m_told r_m_wind r_m_lee r_m_gust r_m_blow r_m_cloth r_m_truth r_m_strong r_m_reefTold r_m_ruleFrom r_m_ruleTo r_m_cName r_m_gName r_m_code r_m_codeNumber r_m_eWhat r_m_eSign r_m_pile r_m_all r_m_was r_m_kept r_m_laidRow r_m_fell r_m_good r_m_least r_m_with r_m_upBy r_m_sCorners r_m_sGuild r_m_sIs r_m_sTold r_m_sUntold r_m_parts r_m_boxAll r_m_isBoxed t WR → va_P g.1 vwCl (WC ++ WR) H → va_D A (WC ++ WR) → va_S A s.heap H locs → lv_has ls 4 [(3, .int (nI i)), (2, .ref r_h0), (1, .ref k_h0), (0, .ref b)] → W p l e room_1 s m #[Value.ref b] below meth c H locs nc ns Q (F0 m 1278 ls [])) : W p l e room_1 s m #[Value.ref b] below meth c H locs nc ns Q (F0 m 473 ls []) := by
  obtain ⟨hx, hb, hml, hr, hlocks, hown, hts, hE, hnm⟩ := id hcx
  refine lv_aload_n hx hb dL_law_473 rfl (lv_at hl 2 rfl) ?_
  refine lv_aload_n hx hb dL_law_474 rfl (lv_at hl 3 rfl) ?_
  refine lv_iload_n hx hb dL_law_475 rfl (lv_at hl 0 rfl) ?_
  refine lv_iconst (v := 1) hx hb dL_law_476 (by decide) ?_
  refine lv_iadd hx hb dL_law_477 ?_
  refine lv_tope (y := (nI (i + 1))) (nI_add (i) (1)) ?_
  refine sc_ld hx hb hX hbl hbA hS (i + 1) rfl (by omega) (by omega) dL_law_478 ?_
  refine lv_aload_n hx hb dL_law_479 rfl (lv_at hl 3 rfl) ?_
  refine lv_iload_n hx hb dL_law_480 rfl (lv_at hl 0 rfl) ?_
  refine lv_iconst (v := 2) hx hb dL_law_481 (by decide) ?_
  refine lv_iadd hx hb dL_law_482 ?_
  refine lv_tope (y := (nI (i + 2))) (nI_add (i) (2)) ?_
  refine sc_ld hx hb hX hbl hbA hS (i + 2) rfl (by omega) (by omega) dL_law_483 ?_
  refine lk_reef ((xs (i + 1))) ((xs (i + 2))) hnc hns hcx hA hl.1 hCI hP hD hS (fun r1 WC H locs hCI hP hD hS => ?_)
  refine lv_pop hx hb dL_law_487 rfl ?_
  refine lv_aload_n hx hb dL_law_488 rfl (lv_at hl 1 rfl) ?_
  refine lv_aload_n hx hb dL_law_489 rfl (lv_at hl 3 rfl) ?_
  refine lv_iload_n hx hb dL_law_490 rfl (lv_at hl 0 rfl) ?_
  refine lv_iconst (v := 1) hx hb dL_law_491 (by decide) ?_
  refine lv_iadd hx hb dL_law_492 ?_
  refine lv_tope (y := (nI (i + 1))) (nI_add (i) (1)) ?_
  refine sc_ld hx hb hX hbl hbA hS (i + 1) rfl (by omega) (by omega) dL_law_493 ?_
  refine lv_aload_n hx hb dL_law_494 rfl (lv_at hl 3 rfl) ?_
  refine lv_iload_n hx hb dL_law_495 rfl (lv_at hl 0 rfl) ?_
  refine lv_iconst (v := 2) hx hb dL_law_496 (by decide) ?_
  refine lv_iadd hx hb dL_law_497 ?_
  refine lv_tope (y := (nI (i + 2))) (nI_add (i) (2)) ?_
  refine sc_ld hx hb hX hbl hbA hS (i + 2) rfl (by omega) (by omega) dL_law_498 ?_
  have hP := P_perm hP List.perm_append_comm
  have hD := D_perm hD List.perm_append_comm
  refine lr_reef ((xs (i + 1))) ((xs (i + 2))) hnc hns hcx hA hl.1 hRI hP hD hS (fun r2 WR H locs hRI hP hD hS => ?_)
  have hP := P_perm hP List.perm_append_comm
  have hD := D_perm hD List.perm_append_comm
  refine lv_pop hx hb dL_law_502 rfl ?_
  refine lv_goto (tgt := 1278) hx hb dL_law_503 (by decide) ?_
  exact kk H locs ls t WC WR hCI hRI hP hD hS hl

set_option maxHeartbeats 4000000 in
set_option maxRecDepth 100000 in
theorem lc_10 {p : Program} {l : Launch} {e : Env} {s : State} {m : MethodId} {below : List Frame} {meth : Method} {c : Code} {g : Gx} {b L : Nat} {xs : Nat → Int32} {A : Nat → Prop} {nc ns : Nat} {z : Sg} {Q : State → Prop} {k_h0 k_rd k_tk k_tp k_sp k_dr k_dr_winds k_dr_lees k_dr_gustChances k_dr_gusts k_dr_cloths k_dr_trues k_dr_strengths k_dr_reefs k_dr_cornerNames k_dr_guildNames k_dr_pu k_dr_pu_op k_dr_pu_nu k_dr_pu_st k_dr_ho k_dr_ho_op k_dr_ho_nu k_dr_ho_st k_to k_to_winds k_to_lees k_to_gustChances k_to_gusts k_to_cloths k_to_trues k_to_strengths k_to_reefs k_to_pu k_to_pu_op k_to_pu_nu k_to_pu_st k_to_ho k_to_ho_op k_to_ho_nu k_to_ho_st k_no k_no_or k_no_re k_no_ch k_no_ho k_no_gu k_co k_va k_ou k_tr k_tr_or k_tr_re k_tr_ch k_tr_ho k_tr_gu k_ra k_or_ k_su k_ah k_td k_be k_hi k_sa k_ly k_nu k_si k_s_corners k_s_guilds k_s_wasUp k_s_toldAt k_s_untoldAt k_s_untold k_s_upBehind k_s_fitting k_s_groups k_t2 k_t2_or k_t2_re k_t2_ch k_t2_ho k_t2_gu k_bx k_bf r_h0 r_m_tape r_m_text r_m_corners r_m_guilds r_m_gusts r_m_units r_m_draw r_m_told r_m_wind r_m_lee r_m_gust r_m_blow r_m_cloth r_m_truth r_m_strong r_m_reefTold r_m_ruleFrom r_m_ruleTo r_m_cName r_m_gName r_m_code r_m_codeNumber r_m_eWhat r_m_eSign r_m_pile r_m_all r_m_was r_m_kept r_m_laidRow r_m_fell r_m_good r_m_least r_m_with r_m_upBy r_m_sCorners r_m_sGuild r_m_sIs r_m_sTold r_m_sUntold r_m_parts r_m_boxAll r_m_isBoxed : Nat} {i : Nat} {H : Heap} {locs : List Loc} {ls : Array Slot} {t : Int32} {WC WR : va_W} (hnc : nc ≤ 10000) (hns : ns ≤ 1000000) (hcx : Cx p s m #[Value.ref b] meth c cL_law 4 ret RL meth.name g) (hF : SEg z A s s.heap) (hX : va_X b L xs s s.heap) (hL : L ≤ 3072) (hbl : b < s.heap.size) (hbA : ¬ A b) (hA : ∀ q : Nat, s.heap.size ≤ q → A q) (hi : i + 6 ≤ L) (hCI : CI g k_h0 k_rd k_tk k_tp k_sp k_dr k_dr_winds k_dr_lees k_dr_gustChances k_dr_gusts k_dr_cloths k_dr_trues k_dr_strengths k_dr_reefs k_dr_cornerNames k_dr_guildNames k_dr_pu k_dr_pu_op k_dr_pu_nu k_dr_pu_st k_dr_ho k_dr_ho_op k_dr_ho_nu k_dr_ho_st k_to k_to_winds k_to_lees k_to_gustChances k_to_gusts k_to_cloths k_to_trues k_to_strengths k_to_reefs k_to_pu k_to_pu_op k_to_pu_nu k_to_pu_st k_to_ho k_to_ho_op k_to_ho_nu k_to_ho_st k_no k_no_or k_no_re k_no_ch k_no_ho k_no_gu k_co k_va k_ou k_tr k_tr_or k_tr_re k_tr_ch k_tr_ho k_tr_gu k_ra k_or_ k_su k_ah k_td k_be k_hi k_sa k_ly k_nu k_si k_s_corners k_s_guilds k_s_wasUp k_s_toldAt k_s_untoldAt k_s_untold k_s_upBehind k_s_fitting k_s_groups k_t2 k_t2_or k_t2_re k_t2_ch k_t2_ho k_t2_gu k_bx k_bf t WC) (hRI : RI g r_h0 r_m_tape r_m_text r_m_corners r_m_guilds r_m_gusts r_m_units r_m_draw r_m_told r_m_wind r_m_lee r_m_gust r_m_blow r_m_cloth r_m_truth r_m_strong r_m_reefTold r_m_ruleFrom r_m_ruleTo r_m_cName r_m_gName r_m_code r_m_codeNumber r_m_eWhat r_m_eSign r_m_pile r_m_all r_m_was r_m_kept r_m_laidRow r_m_fell r_m_good r_m_least r_m_with r_m_upBy r_m_sCorners r_m_sGuild r_m_sIs r_m_sTold r_m_sUntold r_m_parts r_m_boxAll r_m_isBoxed t WR) (hP : va_P g.1 vwCl (WC ++ WR) H) (hD : va_D A (WC ++ WR)) (hS : va_S A s.heap H locs) (hl : lv_has ls 4 [(3, .int (nI i)), (2, .ref r_h0), (1, .ref k_h0), (0, .ref b)])
    (kk : ∀ (H : Heap) (locs : List Loc) (ls : Array Slot) (t : Int32) (WC WR : va_W), CI g k_h0 k_rd k_tk k_tp k_sp k_dr k_dr_winds k_dr_lees k_dr_gustChances k_dr_gusts k_dr_cloths k_dr_trues k_dr_strengths k_dr_reefs k_dr_cornerNames k_dr_guildNames k_dr_pu k_dr_pu_op k_dr_pu_nu k_dr_pu_st k_dr_ho k_dr_ho_op k_dr_ho_nu k_dr_ho_st k_to k_to_winds k_to_lees k_to_gustChances k_to_gusts k_to_cloths k_to_trues k_to_strengths k_to_reefs k_to_pu k_to_pu_op k_to_pu_nu k_to_pu_st k_to_ho k_to_ho_op k_to_ho_nu k_to_ho_st k_no k_no_or k_no_re k_no_ch k_no_ho k_no_gu k_co k_va k_ou k_tr k_tr_or k_tr_re k_tr_ch k_tr_ho k_tr_gu k_ra k_or_ k_su k_ah k_td k_be k_hi k_sa k_ly k_nu k_si k_s_corners k_s_guilds k_s_wasUp k_s_toldAt k_s_untoldAt k_s_untold k_s_upBehind k_s_fitting k_s_groups k_t2 k_t2_or k_t2_re k_t2_ch k_t2_ho k_t2_gu k_bx k_bf t WC → RI g r_h0 r_m_tape r_m_text r_m_corners r_m_guilds r_m_gusts r_m_units r_m_draw r_m_told r_m_wind r_m_lee r_m_gust r_m_blow r_m_cloth r_m_truth r_m_strong r_m_reefTold r_m_ruleFrom r_m_ruleTo r_m_cName r_m_gName r_m_code r_m_codeNumber r_m_eWhat r_m_eSign r_m_pile r_m_all r_m_was r_m_kept r_m_laidRow r_m_fell r_m_good r_m_least r_m_with r_m_upBy r_m_sCorners r_m_sGuild r_m_sIs r_m_sTold r_m_sUntold r_m_parts r_m_boxAll r_m_isBoxed t WR → va_P g.1 vwCl (WC ++ WR) H → va_D A (WC ++ WR) → va_S A s.heap H locs → lv_has ls 4 [(3, .int (nI i)), (2, .ref r_h0), (1, .ref k_h0), (0, .ref b)] → W p l e room_1 s m #[Value.ref b] below meth c H locs nc ns Q (F0 m 1278 ls [])) : W p l e room_1 s m #[Value.ref b] below meth c H locs nc ns Q (F0 m 506 ls []) := by
  obtain ⟨hx, hb, hml, hr, hlocks, hown, hts, hE, hnm⟩ := id hcx
  refine lv_aload_n hx hb dL_law_506 rfl (lv_at hl 2 rfl) ?_
  refine lv_aload_n hx hb dL_law_507 rfl (lv_at hl 3 rfl) ?_
  refine lv_iload_n hx hb dL_law_508 rfl (lv_at hl 0 rfl) ?_
  refine lv_iconst (v := 1) hx hb dL_law_509 (by decide) ?_
  refine lv_iadd hx hb dL_law_510 ?_
  refine lv_tope (y := (nI (i + 1))) (nI_add (i) (1)) ?_
  refine sc_ld hx hb hX hbl hbA hS (i + 1) rfl (by omega) (by omega) dL_law_511 ?_
  refine lv_aload_n hx hb dL_law_512 rfl (lv_at hl 3 rfl) ?_
  refine lv_iload_n hx hb dL_law_513 rfl (lv_at hl 0 rfl) ?_
  refine lv_iconst (v := 2) hx hb dL_law_514 (by decide) ?_
  refine lv_iadd hx hb dL_law_515 ?_
  refine lv_tope (y := (nI (i + 2))) (nI_add (i) (2)) ?_
  refine sc_ld hx hb hX hbl hbA hS (i + 2) rfl (by omega) (by omega) dL_law_516 ?_
  refine lk_child ((xs (i + 1))) ((xs (i + 2))) hnc hns hcx hA hl.1 hCI hP hD hS (fun r1 WC H locs hCI hP hD hS => ?_)
  refine lv_pop hx hb dL_law_520 rfl ?_
  refine lv_aload_n hx hb dL_law_521 rfl (lv_at hl 1 rfl) ?_
  refine lv_aload_n hx hb dL_law_522 rfl (lv_at hl 3 rfl) ?_
  refine lv_iload_n hx hb dL_law_523 rfl (lv_at hl 0 rfl) ?_
  refine lv_iconst (v := 1) hx hb dL_law_524 (by decide) ?_
  refine lv_iadd hx hb dL_law_525 ?_
  refine lv_tope (y := (nI (i + 1))) (nI_add (i) (1)) ?_
  refine sc_ld hx hb hX hbl hbA hS (i + 1) rfl (by omega) (by omega) dL_law_526 ?_
  refine lv_aload_n hx hb dL_law_527 rfl (lv_at hl 3 rfl) ?_
  refine lv_iload_n hx hb dL_law_528 rfl (lv_at hl 0 rfl) ?_
  refine lv_iconst (v := 2) hx hb dL_law_529 (by decide) ?_
  refine lv_iadd hx hb dL_law_530 ?_
  refine lv_tope (y := (nI (i + 2))) (nI_add (i) (2)) ?_
  refine sc_ld hx hb hX hbl hbA hS (i + 2) rfl (by omega) (by omega) dL_law_531 ?_
  have hP := P_perm hP List.perm_append_comm
  have hD := D_perm hD List.perm_append_comm
  refine lr_child ((xs (i + 1))) ((xs (i + 2))) hnc hns hcx hA hl.1 hRI hP hD hS (fun r2 WR H locs hRI hP hD hS => ?_)
  have hP := P_perm hP List.perm_append_comm
  have hD := D_perm hD List.perm_append_comm
  refine lv_pop hx hb dL_law_535 rfl ?_
  refine lv_goto (tgt := 1278) hx hb dL_law_536 (by decide) ?_
  exact kk H locs ls t WC WR hCI hRI hP hD hS hl

set_option maxHeartbeats 4000000 in
set_option maxRecDepth 100000 in
theorem lc_11 {p : Program} {l : Launch} {e : Env} {s : State} {m : MethodId} {below : List Frame} {meth : Method} {c : Code} {g : Gx} {b L : Nat} {xs : Nat → Int32} {A : Nat → Prop} {nc ns : Nat} {z : Sg} {Q : State → Prop} {k_h0 k_rd k_tk k_tp k_sp k_dr k_dr_winds k_dr_lees k_dr_gustChances k_dr_gusts k_dr_cloths k_dr_trues k_dr_strengths k_dr_reefs k_dr_cornerNames k_dr_guildNames k_dr_pu k_dr_pu_op k_dr_pu_nu k_dr_pu_st k_dr_ho k_dr_ho_op k_dr_ho_nu k_dr_ho_st k_to k_to_winds k_to_lees k_to_gustChances k_to_gusts k_to_cloths k_to_trues k_to_strengths k_to_reefs k_to_pu k_to_pu_op k_to_pu_nu k_to_pu_st k_to_ho k_to_ho_op k_to_ho_nu k_to_ho_st k_no k_no_or k_no_re k_no_ch k_no_ho k_no_gu k_co k_va k_ou k_tr k_tr_or k_tr_re k_tr_ch k_tr_ho k_tr_gu k_ra k_or_ k_su k_ah k_td k_be k_hi k_sa k_ly k_nu k_si k_s_corners k_s_guilds k_s_wasUp k_s_toldAt k_s_untoldAt k_s_untold k_s_upBehind k_s_fitting k_s_groups k_t2 k_t2_or k_t2_re k_t2_ch k_t2_ho k_t2_gu k_bx k_bf r_h0 r_m_tape r_m_text r_m_corners r_m_guilds r_m_gusts r_m_units r_m_draw r_m_told r_m_wind r_m_lee r_m_gust r_m_blow r_m_cloth r_m_truth r_m_strong r_m_reefTold r_m_ruleFrom r_m_ruleTo r_m_cName r_m_gName r_m_code r_m_codeNumber r_m_eWhat r_m_eSign r_m_pile r_m_all r_m_was r_m_kept r_m_laidRow r_m_fell r_m_good r_m_least r_m_with r_m_upBy r_m_sCorners r_m_sGuild r_m_sIs r_m_sTold r_m_sUntold r_m_parts r_m_boxAll r_m_isBoxed : Nat} {i : Nat} {H : Heap} {locs : List Loc} {ls : Array Slot} {t : Int32} {WC WR : va_W} (hnc : nc ≤ 10000) (hns : ns ≤ 1000000) (hcx : Cx p s m #[Value.ref b] meth c cL_law 4 ret RL meth.name g) (hF : SEg z A s s.heap) (hX : va_X b L xs s s.heap) (hL : L ≤ 3072) (hbl : b < s.heap.size) (hbA : ¬ A b) (hA : ∀ q : Nat, s.heap.size ≤ q → A q) (hi : i + 6 ≤ L) (hCI : CI g k_h0 k_rd k_tk k_tp k_sp k_dr k_dr_winds k_dr_lees k_dr_gustChances k_dr_gusts k_dr_cloths k_dr_trues k_dr_strengths k_dr_reefs k_dr_cornerNames k_dr_guildNames k_dr_pu k_dr_pu_op k_dr_pu_nu k_dr_pu_st k_dr_ho k_dr_ho_op k_dr_ho_nu k_dr_ho_st k_to k_to_winds k_to_lees k_to_gustChances k_to_gusts k_to_cloths k_to_trues k_to_strengths k_to_reefs k_to_pu k_to_pu_op k_to_pu_nu k_to_pu_st k_to_ho k_to_ho_op k_to_ho_nu k_to_ho_st k_no k_no_or k_no_re k_no_ch k_no_ho k_no_gu k_co k_va k_ou k_tr k_tr_or k_tr_re k_tr_ch k_tr_ho k_tr_gu k_ra k_or_ k_su k_ah k_td k_be k_hi k_sa k_ly k_nu k_si k_s_corners k_s_guilds k_s_wasUp k_s_toldAt k_s_untoldAt k_s_untold k_s_upBehind k_s_fitting k_s_groups k_t2 k_t2_or k_t2_re k_t2_ch k_t2_ho k_t2_gu k_bx k_bf t WC) (hRI : RI g r_h0 r_m_tape r_m_text r_m_corners r_m_guilds r_m_gusts r_m_units r_m_draw r_m_told r_m_wind r_m_lee r_m_gust r_m_blow r_m_cloth r_m_truth r_m_strong r_m_reefTold r_m_ruleFrom r_m_ruleTo r_m_cName r_m_gName r_m_code r_m_codeNumber r_m_eWhat r_m_eSign r_m_pile r_m_all r_m_was r_m_kept r_m_laidRow r_m_fell r_m_good r_m_least r_m_with r_m_upBy r_m_sCorners r_m_sGuild r_m_sIs r_m_sTold r_m_sUntold r_m_parts r_m_boxAll r_m_isBoxed t WR) (hP : va_P g.1 vwCl (WC ++ WR) H) (hD : va_D A (WC ++ WR)) (hS : va_S A s.heap H locs) (hl : lv_has ls 4 [(3, .int (nI i)), (2, .ref r_h0), (1, .ref k_h0), (0, .ref b)])
    (kk : ∀ (H : Heap) (locs : List Loc) (ls : Array Slot) (t : Int32) (WC WR : va_W), CI g k_h0 k_rd k_tk k_tp k_sp k_dr k_dr_winds k_dr_lees k_dr_gustChances k_dr_gusts k_dr_cloths k_dr_trues k_dr_strengths k_dr_reefs k_dr_cornerNames k_dr_guildNames k_dr_pu k_dr_pu_op k_dr_pu_nu k_dr_pu_st k_dr_ho k_dr_ho_op k_dr_ho_nu k_dr_ho_st k_to k_to_winds k_to_lees k_to_gustChances k_to_gusts k_to_cloths k_to_trues k_to_strengths k_to_reefs k_to_pu k_to_pu_op k_to_pu_nu k_to_pu_st k_to_ho k_to_ho_op k_to_ho_nu k_to_ho_st k_no k_no_or k_no_re k_no_ch k_no_ho k_no_gu k_co k_va k_ou k_tr k_tr_or k_tr_re k_tr_ch k_tr_ho k_tr_gu k_ra k_or_ k_su k_ah k_td k_be k_hi k_sa k_ly k_nu k_si k_s_corners k_s_guilds k_s_wasUp k_s_toldAt k_s_untoldAt k_s_untold k_s_upBehind k_s_fitting k_s_groups k_t2 k_t2_or k_t2_re k_t2_ch k_t2_ho k_t2_gu k_bx k_bf t WC → RI g r_h0 r_m_tape r_m_text r_m_corners r_m_guilds r_m_gusts r_m_units r_m_draw r_m_told r_m_wind r_m_lee r_m_gust r_m_blow r_m_cloth r_m_truth r_m_strong r_m_reefTold r_m_ruleFrom r_m_ruleTo r_m_cName r_m_gName r_m_code r_m_codeNumber r_m_eWhat r_m_eSign r_m_pile r_m_all r_m_was r_m_kept r_m_laidRow r_m_fell r_m_good r_m_least r_m_with r_m_upBy r_m_sCorners r_m_sGuild r_m_sIs r_m_sTold r_m_sUntold r_m_parts r_m_boxAll r_m_isBoxed t WR → va_P g.1 vwCl (WC ++ WR) H → va_D A (WC ++ WR) → va_S A s.heap H locs → lv_has ls 4 [(3, .int (nI i)), (2, .ref r_h0), (1, .ref k_h0), (0, .ref b)] → W p l e room_1 s m #[Value.ref b] below meth c H locs nc ns Q (F0 m 1278 ls [])) : W p l e room_1 s m #[Value.ref b] below meth c H locs nc ns Q (F0 m 539 ls []) := by
  obtain ⟨hx, hb, hml, hr, hlocks, hown, hts, hE, hnm⟩ := id hcx
  refine lv_aload_n hx hb dL_law_539 rfl (lv_at hl 2 rfl) ?_
  refine lv_aload_n hx hb dL_law_540 rfl (lv_at hl 3 rfl) ?_
  refine lv_iload_n hx hb dL_law_541 rfl (lv_at hl 0 rfl) ?_
  refine lv_iconst (v := 1) hx hb dL_law_542 (by decide) ?_
  refine lv_iadd hx hb dL_law_543 ?_
  refine lv_tope (y := (nI (i + 1))) (nI_add (i) (1)) ?_
  refine sc_ld hx hb hX hbl hbA hS (i + 1) rfl (by omega) (by omega) dL_law_544 ?_
  refine lv_aload_n hx hb dL_law_545 rfl (lv_at hl 3 rfl) ?_
  refine lv_iload_n hx hb dL_law_546 rfl (lv_at hl 0 rfl) ?_
  refine lv_iconst (v := 2) hx hb dL_law_547 (by decide) ?_
  refine lv_iadd hx hb dL_law_548 ?_
  refine lv_tope (y := (nI (i + 2))) (nI_add (i) (2)) ?_
  refine sc_ld hx hb hX hbl hbA hS (i + 2) rfl (by omega) (by omega) dL_law_549 ?_
  refine lk_swap ((xs (i + 1))) ((xs (i + 2))) hnc hns hcx hA hl.1 hCI hP hD hS (fun r1 WC H locs hCI hP hD hS => ?_)
  refine lv_pop hx hb dL_law_553 rfl ?_
  refine lv_aload_n hx hb dL_law_554 rfl (lv_at hl 1 rfl) ?_
  refine lv_aload_n hx hb dL_law_555 rfl (lv_at hl 3 rfl) ?_
  refine lv_iload_n hx hb dL_law_556 rfl (lv_at hl 0 rfl) ?_
  refine lv_iconst (v := 1) hx hb dL_law_557 (by decide) ?_
  refine lv_iadd hx hb dL_law_558 ?_
  refine lv_tope (y := (nI (i + 1))) (nI_add (i) (1)) ?_
  refine sc_ld hx hb hX hbl hbA hS (i + 1) rfl (by omega) (by omega) dL_law_559 ?_
  refine lv_aload_n hx hb dL_law_560 rfl (lv_at hl 3 rfl) ?_
  refine lv_iload_n hx hb dL_law_561 rfl (lv_at hl 0 rfl) ?_
  refine lv_iconst (v := 2) hx hb dL_law_562 (by decide) ?_
  refine lv_iadd hx hb dL_law_563 ?_
  refine lv_tope (y := (nI (i + 2))) (nI_add (i) (2)) ?_
  refine sc_ld hx hb hX hbl hbA hS (i + 2) rfl (by omega) (by omega) dL_law_564 ?_
  have hP := P_perm hP List.perm_append_comm
  have hD := D_perm hD List.perm_append_comm
  refine lr_swap ((xs (i + 1))) ((xs (i + 2))) hnc hns hcx hA hl.1 hRI hP hD hS (fun r2 WR H locs hRI hP hD hS => ?_)
  have hP := P_perm hP List.perm_append_comm
  have hD := D_perm hD List.perm_append_comm
  refine lv_pop hx hb dL_law_568 rfl ?_
  refine lv_goto (tgt := 1278) hx hb dL_law_569 (by decide) ?_
  exact kk H locs ls t WC WR hCI hRI hP hD hS hl

set_option maxHeartbeats 4000000 in
set_option maxRecDepth 100000 in
theorem lc_12 {p : Program} {l : Launch} {e : Env} {s : State} {m : MethodId} {below : List Frame} {meth : Method} {c : Code} {g : Gx} {b L : Nat} {xs : Nat → Int32} {A : Nat → Prop} {nc ns : Nat} {z : Sg} {Q : State → Prop} {k_h0 k_rd k_tk k_tp k_sp k_dr k_dr_winds k_dr_lees k_dr_gustChances k_dr_gusts k_dr_cloths k_dr_trues k_dr_strengths k_dr_reefs k_dr_cornerNames k_dr_guildNames k_dr_pu k_dr_pu_op k_dr_pu_nu k_dr_pu_st k_dr_ho k_dr_ho_op k_dr_ho_nu k_dr_ho_st k_to k_to_winds k_to_lees k_to_gustChances k_to_gusts k_to_cloths k_to_trues k_to_strengths k_to_reefs k_to_pu k_to_pu_op k_to_pu_nu k_to_pu_st k_to_ho k_to_ho_op k_to_ho_nu k_to_ho_st k_no k_no_or k_no_re k_no_ch k_no_ho k_no_gu k_co k_va k_ou k_tr k_tr_or k_tr_re k_tr_ch k_tr_ho k_tr_gu k_ra k_or_ k_su k_ah k_td k_be k_hi k_sa k_ly k_nu k_si k_s_corners k_s_guilds k_s_wasUp k_s_toldAt k_s_untoldAt k_s_untold k_s_upBehind k_s_fitting k_s_groups k_t2 k_t2_or k_t2_re k_t2_ch k_t2_ho k_t2_gu k_bx k_bf r_h0 r_m_tape r_m_text r_m_corners r_m_guilds r_m_gusts r_m_units r_m_draw r_m_told r_m_wind r_m_lee r_m_gust r_m_blow r_m_cloth r_m_truth r_m_strong r_m_reefTold r_m_ruleFrom r_m_ruleTo r_m_cName r_m_gName r_m_code r_m_codeNumber r_m_eWhat r_m_eSign r_m_pile r_m_all r_m_was r_m_kept r_m_laidRow r_m_fell r_m_good r_m_least r_m_with r_m_upBy r_m_sCorners r_m_sGuild r_m_sIs r_m_sTold r_m_sUntold r_m_parts r_m_boxAll r_m_isBoxed : Nat} {i : Nat} {H : Heap} {locs : List Loc} {ls : Array Slot} {t : Int32} {WC WR : va_W} (hnc : nc ≤ 10000) (hns : ns ≤ 1000000) (hcx : Cx p s m #[Value.ref b] meth c cL_law 4 ret RL meth.name g) (hF : SEg z A s s.heap) (hX : va_X b L xs s s.heap) (hL : L ≤ 3072) (hbl : b < s.heap.size) (hbA : ¬ A b) (hA : ∀ q : Nat, s.heap.size ≤ q → A q) (hi : i + 6 ≤ L) (hCI : CI g k_h0 k_rd k_tk k_tp k_sp k_dr k_dr_winds k_dr_lees k_dr_gustChances k_dr_gusts k_dr_cloths k_dr_trues k_dr_strengths k_dr_reefs k_dr_cornerNames k_dr_guildNames k_dr_pu k_dr_pu_op k_dr_pu_nu k_dr_pu_st k_dr_ho k_dr_ho_op k_dr_ho_nu k_dr_ho_st k_to k_to_winds k_to_lees k_to_gustChances k_to_gusts k_to_cloths k_to_trues k_to_strengths k_to_reefs k_to_pu k_to_pu_op k_to_pu_nu k_to_pu_st k_to_ho k_to_ho_op k_to_ho_nu k_to_ho_st k_no k_no_or k_no_re k_no_ch k_no_ho k_no_gu k_co k_va k_ou k_tr k_tr_or k_tr_re k_tr_ch k_tr_ho k_tr_gu k_ra k_or_ k_su k_ah k_td k_be k_hi k_sa k_ly k_nu k_si k_s_corners k_s_guilds k_s_wasUp k_s_toldAt k_s_untoldAt k_s_untold k_s_upBehind k_s_fitting k_s_groups k_t2 k_t2_or k_t2_re k_t2_ch k_t2_ho k_t2_gu k_bx k_bf t WC) (hRI : RI g r_h0 r_m_tape r_m_text r_m_corners r_m_guilds r_m_gusts r_m_units r_m_draw r_m_told r_m_wind r_m_lee r_m_gust r_m_blow r_m_cloth r_m_truth r_m_strong r_m_reefTold r_m_ruleFrom r_m_ruleTo r_m_cName r_m_gName r_m_code r_m_codeNumber r_m_eWhat r_m_eSign r_m_pile r_m_all r_m_was r_m_kept r_m_laidRow r_m_fell r_m_good r_m_least r_m_with r_m_upBy r_m_sCorners r_m_sGuild r_m_sIs r_m_sTold r_m_sUntold r_m_parts r_m_boxAll r_m_isBoxed t WR) (hP : va_P g.1 vwCl (WC ++ WR) H) (hD : va_D A (WC ++ WR)) (hS : va_S A s.heap H locs) (hl : lv_has ls 4 [(3, .int (nI i)), (2, .ref r_h0), (1, .ref k_h0), (0, .ref b)])
    (kk : ∀ (H : Heap) (locs : List Loc) (ls : Array Slot) (t : Int32) (WC WR : va_W), CI g k_h0 k_rd k_tk k_tp k_sp k_dr k_dr_winds k_dr_lees k_dr_gustChances k_dr_gusts k_dr_cloths k_dr_trues k_dr_strengths k_dr_reefs k_dr_cornerNames k_dr_guildNames k_dr_pu k_dr_pu_op k_dr_pu_nu k_dr_pu_st k_dr_ho k_dr_ho_op k_dr_ho_nu k_dr_ho_st k_to k_to_winds k_to_lees k_to_gustChances k_to_gusts k_to_cloths k_to_trues k_to_strengths k_to_reefs k_to_pu k_to_pu_op k_to_pu_nu k_to_pu_st k_to_ho k_to_ho_op k_to_ho_nu k_to_ho_st k_no k_no_or k_no_re k_no_ch k_no_ho k_no_gu k_co k_va k_ou k_tr k_tr_or k_tr_re k_tr_ch k_tr_ho k_tr_gu k_ra k_or_ k_su k_ah k_td k_be k_hi k_sa k_ly k_nu k_si k_s_corners k_s_guilds k_s_wasUp k_s_toldAt k_s_untoldAt k_s_untold k_s_upBehind k_s_fitting k_s_groups k_t2 k_t2_or k_t2_re k_t2_ch k_t2_ho k_t2_gu k_bx k_bf t WC → RI g r_h0 r_m_tape r_m_text r_m_corners r_m_guilds r_m_gusts r_m_units r_m_draw r_m_told r_m_wind r_m_lee r_m_gust r_m_blow r_m_cloth r_m_truth r_m_strong r_m_reefTold r_m_ruleFrom r_m_ruleTo r_m_cName r_m_gName r_m_code r_m_codeNumber r_m_eWhat r_m_eSign r_m_pile r_m_all r_m_was r_m_kept r_m_laidRow r_m_fell r_m_good r_m_least r_m_with r_m_upBy r_m_sCorners r_m_sGuild r_m_sIs r_m_sTold r_m_sUntold r_m_parts r_m_boxAll r_m_isBoxed t WR → va_P g.1 vwCl (WC ++ WR) H → va_D A (WC ++ WR) → va_S A s.heap H locs → lv_has ls 4 [(3, .int (nI i)), (2, .ref r_h0), (1, .ref k_h0), (0, .ref b)] → W p l e room_1 s m #[Value.ref b] below meth c H locs nc ns Q (F0 m 1278 ls [])) : W p l e room_1 s m #[Value.ref b] below meth c H locs nc ns Q (F0 m 572 ls []) := by
  obtain ⟨hx, hb, hml, hr, hlocks, hown, hts, hE, hnm⟩ := id hcx
  refine lv_aload_n hx hb dL_law_572 rfl (lv_at hl 2 rfl) ?_
  refine lv_aload_n hx hb dL_law_573 rfl (lv_at hl 3 rfl) ?_
  refine lv_iload_n hx hb dL_law_574 rfl (lv_at hl 0 rfl) ?_
  refine lv_iconst (v := 1) hx hb dL_law_575 (by decide) ?_
  refine lv_iadd hx hb dL_law_576 ?_
  refine lv_tope (y := (nI (i + 1))) (nI_add (i) (1)) ?_
  refine sc_ld hx hb hX hbl hbA hS (i + 1) rfl (by omega) (by omega) dL_law_577 ?_
  refine lv_aload_n hx hb dL_law_578 rfl (lv_at hl 3 rfl) ?_
  refine lv_iload_n hx hb dL_law_579 rfl (lv_at hl 0 rfl) ?_
  refine lv_iconst (v := 2) hx hb dL_law_580 (by decide) ?_
  refine lv_iadd hx hb dL_law_581 ?_
  refine lv_tope (y := (nI (i + 2))) (nI_add (i) (2)) ?_
  refine sc_ld hx hb hX hbl hbA hS (i + 2) rfl (by omega) (by omega) dL_law_582 ?_
  refine lk_under ((xs (i + 1))) ((xs (i + 2))) hnc hns hcx hA hl.1 hCI hP hD hS (fun r1 WC H locs hCI hP hD hS => ?_)
  refine lv_pop hx hb dL_law_586 rfl ?_
  refine lv_aload_n hx hb dL_law_587 rfl (lv_at hl 1 rfl) ?_
  refine lv_aload_n hx hb dL_law_588 rfl (lv_at hl 3 rfl) ?_
  refine lv_iload_n hx hb dL_law_589 rfl (lv_at hl 0 rfl) ?_
  refine lv_iconst (v := 1) hx hb dL_law_590 (by decide) ?_
  refine lv_iadd hx hb dL_law_591 ?_
  refine lv_tope (y := (nI (i + 1))) (nI_add (i) (1)) ?_
  refine sc_ld hx hb hX hbl hbA hS (i + 1) rfl (by omega) (by omega) dL_law_592 ?_
  refine lv_aload_n hx hb dL_law_593 rfl (lv_at hl 3 rfl) ?_
  refine lv_iload_n hx hb dL_law_594 rfl (lv_at hl 0 rfl) ?_
  refine lv_iconst (v := 2) hx hb dL_law_595 (by decide) ?_
  refine lv_iadd hx hb dL_law_596 ?_
  refine lv_tope (y := (nI (i + 2))) (nI_add (i) (2)) ?_
  refine sc_ld hx hb hX hbl hbA hS (i + 2) rfl (by omega) (by omega) dL_law_597 ?_
  have hP := P_perm hP List.perm_append_comm
  have hD := D_perm hD List.perm_append_comm
  refine lr_under ((xs (i + 1))) ((xs (i + 2))) hnc hns hcx hA hl.1 hRI hP hD hS (fun r2 WR H locs hRI hP hD hS => ?_)
  have hP := P_perm hP List.perm_append_comm
  have hD := D_perm hD List.perm_append_comm
  refine lv_pop hx hb dL_law_601 rfl ?_
  refine lv_goto (tgt := 1278) hx hb dL_law_602 (by decide) ?_
  exact kk H locs ls t WC WR hCI hRI hP hD hS hl

set_option maxHeartbeats 4000000 in
set_option maxRecDepth 100000 in
theorem lc_13 {p : Program} {l : Launch} {e : Env} {s : State} {m : MethodId} {below : List Frame} {meth : Method} {c : Code} {g : Gx} {b L : Nat} {xs : Nat → Int32} {A : Nat → Prop} {nc ns : Nat} {z : Sg} {Q : State → Prop} {k_h0 k_rd k_tk k_tp k_sp k_dr k_dr_winds k_dr_lees k_dr_gustChances k_dr_gusts k_dr_cloths k_dr_trues k_dr_strengths k_dr_reefs k_dr_cornerNames k_dr_guildNames k_dr_pu k_dr_pu_op k_dr_pu_nu k_dr_pu_st k_dr_ho k_dr_ho_op k_dr_ho_nu k_dr_ho_st k_to k_to_winds k_to_lees k_to_gustChances k_to_gusts k_to_cloths k_to_trues k_to_strengths k_to_reefs k_to_pu k_to_pu_op k_to_pu_nu k_to_pu_st k_to_ho k_to_ho_op k_to_ho_nu k_to_ho_st k_no k_no_or k_no_re k_no_ch k_no_ho k_no_gu k_co k_va k_ou k_tr k_tr_or k_tr_re k_tr_ch k_tr_ho k_tr_gu k_ra k_or_ k_su k_ah k_td k_be k_hi k_sa k_ly k_nu k_si k_s_corners k_s_guilds k_s_wasUp k_s_toldAt k_s_untoldAt k_s_untold k_s_upBehind k_s_fitting k_s_groups k_t2 k_t2_or k_t2_re k_t2_ch k_t2_ho k_t2_gu k_bx k_bf r_h0 r_m_tape r_m_text r_m_corners r_m_guilds r_m_gusts r_m_units r_m_draw r_m_told r_m_wind r_m_lee r_m_gust r_m_blow r_m_cloth r_m_truth r_m_strong r_m_reefTold r_m_ruleFrom r_m_ruleTo r_m_cName r_m_gName r_m_code r_m_codeNumber r_m_eWhat r_m_eSign r_m_pile r_m_all r_m_was r_m_kept r_m_laidRow r_m_fell r_m_good r_m_least r_m_with r_m_upBy r_m_sCorners r_m_sGuild r_m_sIs r_m_sTold r_m_sUntold r_m_parts r_m_boxAll r_m_isBoxed : Nat} {i : Nat} {H : Heap} {locs : List Loc} {ls : Array Slot} {t : Int32} {WC WR : va_W} (hnc : nc ≤ 10000) (hns : ns ≤ 1000000) (hcx : Cx p s m #[Value.ref b] meth c cL_law 4 ret RL meth.name g) (hF : SEg z A s s.heap) (hX : va_X b L xs s s.heap) (hL : L ≤ 3072) (hbl : b < s.heap.size) (hbA : ¬ A b) (hA : ∀ q : Nat, s.heap.size ≤ q → A q) (hi : i + 6 ≤ L) (hCI : CI g k_h0 k_rd k_tk k_tp k_sp k_dr k_dr_winds k_dr_lees k_dr_gustChances k_dr_gusts k_dr_cloths k_dr_trues k_dr_strengths k_dr_reefs k_dr_cornerNames k_dr_guildNames k_dr_pu k_dr_pu_op k_dr_pu_nu k_dr_pu_st k_dr_ho k_dr_ho_op k_dr_ho_nu k_dr_ho_st k_to k_to_winds k_to_lees k_to_gustChances k_to_gusts k_to_cloths k_to_trues k_to_strengths k_to_reefs k_to_pu k_to_pu_op k_to_pu_nu k_to_pu_st k_to_ho k_to_ho_op k_to_ho_nu k_to_ho_st k_no k_no_or k_no_re k_no_ch k_no_ho k_no_gu k_co k_va k_ou k_tr k_tr_or k_tr_re k_tr_ch k_tr_ho k_tr_gu k_ra k_or_ k_su k_ah k_td k_be k_hi k_sa k_ly k_nu k_si k_s_corners k_s_guilds k_s_wasUp k_s_toldAt k_s_untoldAt k_s_untold k_s_upBehind k_s_fitting k_s_groups k_t2 k_t2_or k_t2_re k_t2_ch k_t2_ho k_t2_gu k_bx k_bf t WC) (hRI : RI g r_h0 r_m_tape r_m_text r_m_corners r_m_guilds r_m_gusts r_m_units r_m_draw r_m_told r_m_wind r_m_lee r_m_gust r_m_blow r_m_cloth r_m_truth r_m_strong r_m_reefTold r_m_ruleFrom r_m_ruleTo r_m_cName r_m_gName r_m_code r_m_codeNumber r_m_eWhat r_m_eSign r_m_pile r_m_all r_m_was r_m_kept r_m_laidRow r_m_fell r_m_good r_m_least r_m_with r_m_upBy r_m_sCorners r_m_sGuild r_m_sIs r_m_sTold r_m_sUntold r_m_parts r_m_boxAll r_m_isBoxed t WR) (hP : va_P g.1 vwCl (WC ++ WR) H) (hD : va_D A (WC ++ WR)) (hS : va_S A s.heap H locs) (hl : lv_has ls 4 [(3, .int (nI i)), (2, .ref r_h0), (1, .ref k_h0), (0, .ref b)])
    (kk : ∀ (H : Heap) (locs : List Loc) (ls : Array Slot) (t : Int32) (WC WR : va_W), CI g k_h0 k_rd k_tk k_tp k_sp k_dr k_dr_winds k_dr_lees k_dr_gustChances k_dr_gusts k_dr_cloths k_dr_trues k_dr_strengths k_dr_reefs k_dr_cornerNames k_dr_guildNames k_dr_pu k_dr_pu_op k_dr_pu_nu k_dr_pu_st k_dr_ho k_dr_ho_op k_dr_ho_nu k_dr_ho_st k_to k_to_winds k_to_lees k_to_gustChances k_to_gusts k_to_cloths k_to_trues k_to_strengths k_to_reefs k_to_pu k_to_pu_op k_to_pu_nu k_to_pu_st k_to_ho k_to_ho_op k_to_ho_nu k_to_ho_st k_no k_no_or k_no_re k_no_ch k_no_ho k_no_gu k_co k_va k_ou k_tr k_tr_or k_tr_re k_tr_ch k_tr_ho k_tr_gu k_ra k_or_ k_su k_ah k_td k_be k_hi k_sa k_ly k_nu k_si k_s_corners k_s_guilds k_s_wasUp k_s_toldAt k_s_untoldAt k_s_untold k_s_upBehind k_s_fitting k_s_groups k_t2 k_t2_or k_t2_re k_t2_ch k_t2_ho k_t2_gu k_bx k_bf t WC → RI g r_h0 r_m_tape r_m_text r_m_corners r_m_guilds r_m_gusts r_m_units r_m_draw r_m_told r_m_wind r_m_lee r_m_gust r_m_blow r_m_cloth r_m_truth r_m_strong r_m_reefTold r_m_ruleFrom r_m_ruleTo r_m_cName r_m_gName r_m_code r_m_codeNumber r_m_eWhat r_m_eSign r_m_pile r_m_all r_m_was r_m_kept r_m_laidRow r_m_fell r_m_good r_m_least r_m_with r_m_upBy r_m_sCorners r_m_sGuild r_m_sIs r_m_sTold r_m_sUntold r_m_parts r_m_boxAll r_m_isBoxed t WR → va_P g.1 vwCl (WC ++ WR) H → va_D A (WC ++ WR) → va_S A s.heap H locs → lv_has ls 4 [(3, .int (nI i)), (2, .ref r_h0), (1, .ref k_h0), (0, .ref b)] → W p l e room_1 s m #[Value.ref b] below meth c H locs nc ns Q (F0 m 1278 ls [])) : W p l e room_1 s m #[Value.ref b] below meth c H locs nc ns Q (F0 m 605 ls []) := by
  obtain ⟨hx, hb, hml, hr, hlocks, hown, hts, hE, hnm⟩ := id hcx
  refine lv_aload_n hx hb dL_law_605 rfl (lv_at hl 2 rfl) ?_
  refine lv_aload_n hx hb dL_law_606 rfl (lv_at hl 3 rfl) ?_
  refine lv_iload_n hx hb dL_law_607 rfl (lv_at hl 0 rfl) ?_
  refine lv_iconst (v := 1) hx hb dL_law_608 (by decide) ?_
  refine lv_iadd hx hb dL_law_609 ?_
  refine lv_tope (y := (nI (i + 1))) (nI_add (i) (1)) ?_
  refine sc_ld hx hb hX hbl hbA hS (i + 1) rfl (by omega) (by omega) dL_law_610 ?_
  refine lk_part ((xs (i + 1))) hnc hns hcx hA hl.1 hCI hP hD hS (fun r1 WC H locs hCI hP hD hS => ?_)
  refine lv_pop hx hb dL_law_614 rfl ?_
  refine lv_aload_n hx hb dL_law_615 rfl (lv_at hl 1 rfl) ?_
  refine lv_aload_n hx hb dL_law_616 rfl (lv_at hl 3 rfl) ?_
  refine lv_iload_n hx hb dL_law_617 rfl (lv_at hl 0 rfl) ?_
  refine lv_iconst (v := 1) hx hb dL_law_618 (by decide) ?_
  refine lv_iadd hx hb dL_law_619 ?_
  refine lv_tope (y := (nI (i + 1))) (nI_add (i) (1)) ?_
  refine sc_ld hx hb hX hbl hbA hS (i + 1) rfl (by omega) (by omega) dL_law_620 ?_
  have hP := P_perm hP List.perm_append_comm
  have hD := D_perm hD List.perm_append_comm
  refine lr_part ((xs (i + 1))) hnc hns hcx hA hl.1 hRI hP hD hS (fun r2 WR H locs hRI hP hD hS => ?_)
  have hP := P_perm hP List.perm_append_comm
  have hD := D_perm hD List.perm_append_comm
  refine lv_pop hx hb dL_law_624 rfl ?_
  refine lv_goto (tgt := 1278) hx hb dL_law_625 (by decide) ?_
  exact kk H locs ls t WC WR hCI hRI hP hD hS hl

set_option maxHeartbeats 4000000 in
set_option maxRecDepth 100000 in
theorem lc_14 {p : Program} {l : Launch} {e : Env} {s : State} {m : MethodId} {below : List Frame} {meth : Method} {c : Code} {g : Gx} {b L : Nat} {xs : Nat → Int32} {A : Nat → Prop} {nc ns : Nat} {z : Sg} {Q : State → Prop} {k_h0 k_rd k_tk k_tp k_sp k_dr k_dr_winds k_dr_lees k_dr_gustChances k_dr_gusts k_dr_cloths k_dr_trues k_dr_strengths k_dr_reefs k_dr_cornerNames k_dr_guildNames k_dr_pu k_dr_pu_op k_dr_pu_nu k_dr_pu_st k_dr_ho k_dr_ho_op k_dr_ho_nu k_dr_ho_st k_to k_to_winds k_to_lees k_to_gustChances k_to_gusts k_to_cloths k_to_trues k_to_strengths k_to_reefs k_to_pu k_to_pu_op k_to_pu_nu k_to_pu_st k_to_ho k_to_ho_op k_to_ho_nu k_to_ho_st k_no k_no_or k_no_re k_no_ch k_no_ho k_no_gu k_co k_va k_ou k_tr k_tr_or k_tr_re k_tr_ch k_tr_ho k_tr_gu k_ra k_or_ k_su k_ah k_td k_be k_hi k_sa k_ly k_nu k_si k_s_corners k_s_guilds k_s_wasUp k_s_toldAt k_s_untoldAt k_s_untold k_s_upBehind k_s_fitting k_s_groups k_t2 k_t2_or k_t2_re k_t2_ch k_t2_ho k_t2_gu k_bx k_bf r_h0 r_m_tape r_m_text r_m_corners r_m_guilds r_m_gusts r_m_units r_m_draw r_m_told r_m_wind r_m_lee r_m_gust r_m_blow r_m_cloth r_m_truth r_m_strong r_m_reefTold r_m_ruleFrom r_m_ruleTo r_m_cName r_m_gName r_m_code r_m_codeNumber r_m_eWhat r_m_eSign r_m_pile r_m_all r_m_was r_m_kept r_m_laidRow r_m_fell r_m_good r_m_least r_m_with r_m_upBy r_m_sCorners r_m_sGuild r_m_sIs r_m_sTold r_m_sUntold r_m_parts r_m_boxAll r_m_isBoxed : Nat} {i : Nat} {H : Heap} {locs : List Loc} {ls : Array Slot} {t : Int32} {WC WR : va_W} (hnc : nc ≤ 10000) (hns : ns ≤ 1000000) (hcx : Cx p s m #[Value.ref b] meth c cL_law 4 ret RL meth.name g) (hF : SEg z A s s.heap) (hX : va_X b L xs s s.heap) (hL : L ≤ 3072) (hbl : b < s.heap.size) (hbA : ¬ A b) (hA : ∀ q : Nat, s.heap.size ≤ q → A q) (hi : i + 6 ≤ L) (hCI : CI g k_h0 k_rd k_tk k_tp k_sp k_dr k_dr_winds k_dr_lees k_dr_gustChances k_dr_gusts k_dr_cloths k_dr_trues k_dr_strengths k_dr_reefs k_dr_cornerNames k_dr_guildNames k_dr_pu k_dr_pu_op k_dr_pu_nu k_dr_pu_st k_dr_ho k_dr_ho_op k_dr_ho_nu k_dr_ho_st k_to k_to_winds k_to_lees k_to_gustChances k_to_gusts k_to_cloths k_to_trues k_to_strengths k_to_reefs k_to_pu k_to_pu_op k_to_pu_nu k_to_pu_st k_to_ho k_to_ho_op k_to_ho_nu k_to_ho_st k_no k_no_or k_no_re k_no_ch k_no_ho k_no_gu k_co k_va k_ou k_tr k_tr_or k_tr_re k_tr_ch k_tr_ho k_tr_gu k_ra k_or_ k_su k_ah k_td k_be k_hi k_sa k_ly k_nu k_si k_s_corners k_s_guilds k_s_wasUp k_s_toldAt k_s_untoldAt k_s_untold k_s_upBehind k_s_fitting k_s_groups k_t2 k_t2_or k_t2_re k_t2_ch k_t2_ho k_t2_gu k_bx k_bf t WC) (hRI : RI g r_h0 r_m_tape r_m_text r_m_corners r_m_guilds r_m_gusts r_m_units r_m_draw r_m_told r_m_wind r_m_lee r_m_gust r_m_blow r_m_cloth r_m_truth r_m_strong r_m_reefTold r_m_ruleFrom r_m_ruleTo r_m_cName r_m_gName r_m_code r_m_codeNumber r_m_eWhat r_m_eSign r_m_pile r_m_all r_m_was r_m_kept r_m_laidRow r_m_fell r_m_good r_m_least r_m_with r_m_upBy r_m_sCorners r_m_sGuild r_m_sIs r_m_sTold r_m_sUntold r_m_parts r_m_boxAll r_m_isBoxed t WR) (hP : va_P g.1 vwCl (WC ++ WR) H) (hD : va_D A (WC ++ WR)) (hS : va_S A s.heap H locs) (hl : lv_has ls 4 [(3, .int (nI i)), (2, .ref r_h0), (1, .ref k_h0), (0, .ref b)])
    (kk : ∀ (H : Heap) (locs : List Loc) (ls : Array Slot) (t : Int32) (WC WR : va_W), CI g k_h0 k_rd k_tk k_tp k_sp k_dr k_dr_winds k_dr_lees k_dr_gustChances k_dr_gusts k_dr_cloths k_dr_trues k_dr_strengths k_dr_reefs k_dr_cornerNames k_dr_guildNames k_dr_pu k_dr_pu_op k_dr_pu_nu k_dr_pu_st k_dr_ho k_dr_ho_op k_dr_ho_nu k_dr_ho_st k_to k_to_winds k_to_lees k_to_gustChances k_to_gusts k_to_cloths k_to_trues k_to_strengths k_to_reefs k_to_pu k_to_pu_op k_to_pu_nu k_to_pu_st k_to_ho k_to_ho_op k_to_ho_nu k_to_ho_st k_no k_no_or k_no_re k_no_ch k_no_ho k_no_gu k_co k_va k_ou k_tr k_tr_or k_tr_re k_tr_ch k_tr_ho k_tr_gu k_ra k_or_ k_su k_ah k_td k_be k_hi k_sa k_ly k_nu k_si k_s_corners k_s_guilds k_s_wasUp k_s_toldAt k_s_untoldAt k_s_untold k_s_upBehind k_s_fitting k_s_groups k_t2 k_t2_or k_t2_re k_t2_ch k_t2_ho k_t2_gu k_bx k_bf t WC → RI g r_h0 r_m_tape r_m_text r_m_corners r_m_guilds r_m_gusts r_m_units r_m_draw r_m_told r_m_wind r_m_lee r_m_gust r_m_blow r_m_cloth r_m_truth r_m_strong r_m_reefTold r_m_ruleFrom r_m_ruleTo r_m_cName r_m_gName r_m_code r_m_codeNumber r_m_eWhat r_m_eSign r_m_pile r_m_all r_m_was r_m_kept r_m_laidRow r_m_fell r_m_good r_m_least r_m_with r_m_upBy r_m_sCorners r_m_sGuild r_m_sIs r_m_sTold r_m_sUntold r_m_parts r_m_boxAll r_m_isBoxed t WR → va_P g.1 vwCl (WC ++ WR) H → va_D A (WC ++ WR) → va_S A s.heap H locs → lv_has ls 4 [(3, .int (nI i)), (2, .ref r_h0), (1, .ref k_h0), (0, .ref b)] → W p l e room_1 s m #[Value.ref b] below meth c H locs nc ns Q (F0 m 1278 ls [])) : W p l e room_1 s m #[Value.ref b] below meth c H locs nc ns Q (F0 m 628 ls []) := by
  obtain ⟨hx, hb, hml, hr, hlocks, hown, hts, hE, hnm⟩ := id hcx
  refine lv_aload_n hx hb dL_law_628 rfl (lv_at hl 2 rfl) ?_
  refine lk_day hnc hns hcx hA hl.1 hCI hP hD hS (fun r1 WC H locs hCI hP hD hS => ?_)
  refine lv_pop hx hb dL_law_632 rfl ?_
  refine lv_aload_n hx hb dL_law_633 rfl (lv_at hl 1 rfl) ?_
  have hP := P_perm hP List.perm_append_comm
  have hD := D_perm hD List.perm_append_comm
  refine lr_day hnc hns hcx hA hl.1 hRI hP hD hS (fun r2 WR H locs hRI hP hD hS => ?_)
  have hP := P_perm hP List.perm_append_comm
  have hD := D_perm hD List.perm_append_comm
  refine lv_pop hx hb dL_law_637 rfl ?_
  refine lv_goto (tgt := 1278) hx hb dL_law_638 (by decide) ?_
  exact kk H locs ls t WC WR hCI hRI hP hD hS hl

set_option maxHeartbeats 4000000 in
set_option maxRecDepth 100000 in
theorem lc_15 {p : Program} {l : Launch} {e : Env} {s : State} {m : MethodId} {below : List Frame} {meth : Method} {c : Code} {g : Gx} {b L : Nat} {xs : Nat → Int32} {A : Nat → Prop} {nc ns : Nat} {z : Sg} {Q : State → Prop} {k_h0 k_rd k_tk k_tp k_sp k_dr k_dr_winds k_dr_lees k_dr_gustChances k_dr_gusts k_dr_cloths k_dr_trues k_dr_strengths k_dr_reefs k_dr_cornerNames k_dr_guildNames k_dr_pu k_dr_pu_op k_dr_pu_nu k_dr_pu_st k_dr_ho k_dr_ho_op k_dr_ho_nu k_dr_ho_st k_to k_to_winds k_to_lees k_to_gustChances k_to_gusts k_to_cloths k_to_trues k_to_strengths k_to_reefs k_to_pu k_to_pu_op k_to_pu_nu k_to_pu_st k_to_ho k_to_ho_op k_to_ho_nu k_to_ho_st k_no k_no_or k_no_re k_no_ch k_no_ho k_no_gu k_co k_va k_ou k_tr k_tr_or k_tr_re k_tr_ch k_tr_ho k_tr_gu k_ra k_or_ k_su k_ah k_td k_be k_hi k_sa k_ly k_nu k_si k_s_corners k_s_guilds k_s_wasUp k_s_toldAt k_s_untoldAt k_s_untold k_s_upBehind k_s_fitting k_s_groups k_t2 k_t2_or k_t2_re k_t2_ch k_t2_ho k_t2_gu k_bx k_bf r_h0 r_m_tape r_m_text r_m_corners r_m_guilds r_m_gusts r_m_units r_m_draw r_m_told r_m_wind r_m_lee r_m_gust r_m_blow r_m_cloth r_m_truth r_m_strong r_m_reefTold r_m_ruleFrom r_m_ruleTo r_m_cName r_m_gName r_m_code r_m_codeNumber r_m_eWhat r_m_eSign r_m_pile r_m_all r_m_was r_m_kept r_m_laidRow r_m_fell r_m_good r_m_least r_m_with r_m_upBy r_m_sCorners r_m_sGuild r_m_sIs r_m_sTold r_m_sUntold r_m_parts r_m_boxAll r_m_isBoxed : Nat} {i : Nat} {H : Heap} {locs : List Loc} {ls : Array Slot} {t : Int32} {WC WR : va_W} (hnc : nc ≤ 10000) (hns : ns ≤ 1000000) (hcx : Cx p s m #[Value.ref b] meth c cL_law 4 ret RL meth.name g) (hF : SEg z A s s.heap) (hX : va_X b L xs s s.heap) (hL : L ≤ 3072) (hbl : b < s.heap.size) (hbA : ¬ A b) (hA : ∀ q : Nat, s.heap.size ≤ q → A q) (hi : i + 6 ≤ L) (hCI : CI g k_h0 k_rd k_tk k_tp k_sp k_dr k_dr_winds k_dr_lees k_dr_gustChances k_dr_gusts k_dr_cloths k_dr_trues k_dr_strengths k_dr_reefs k_dr_cornerNames k_dr_guildNames k_dr_pu k_dr_pu_op k_dr_pu_nu k_dr_pu_st k_dr_ho k_dr_ho_op k_dr_ho_nu k_dr_ho_st k_to k_to_winds k_to_lees k_to_gustChances k_to_gusts k_to_cloths k_to_trues k_to_strengths k_to_reefs k_to_pu k_to_pu_op k_to_pu_nu k_to_pu_st k_to_ho k_to_ho_op k_to_ho_nu k_to_ho_st k_no k_no_or k_no_re k_no_ch k_no_ho k_no_gu k_co k_va k_ou k_tr k_tr_or k_tr_re k_tr_ch k_tr_ho k_tr_gu k_ra k_or_ k_su k_ah k_td k_be k_hi k_sa k_ly k_nu k_si k_s_corners k_s_guilds k_s_wasUp k_s_toldAt k_s_untoldAt k_s_untold k_s_upBehind k_s_fitting k_s_groups k_t2 k_t2_or k_t2_re k_t2_ch k_t2_ho k_t2_gu k_bx k_bf t WC) (hRI : RI g r_h0 r_m_tape r_m_text r_m_corners r_m_guilds r_m_gusts r_m_units r_m_draw r_m_told r_m_wind r_m_lee r_m_gust r_m_blow r_m_cloth r_m_truth r_m_strong r_m_reefTold r_m_ruleFrom r_m_ruleTo r_m_cName r_m_gName r_m_code r_m_codeNumber r_m_eWhat r_m_eSign r_m_pile r_m_all r_m_was r_m_kept r_m_laidRow r_m_fell r_m_good r_m_least r_m_with r_m_upBy r_m_sCorners r_m_sGuild r_m_sIs r_m_sTold r_m_sUntold r_m_parts r_m_boxAll r_m_isBoxed t WR) (hP : va_P g.1 vwCl (WC ++ WR) H) (hD : va_D A (WC ++ WR)) (hS : va_S A s.heap H locs) (hl : lv_has ls 4 [(3, .int (nI i)), (2, .ref r_h0), (1, .ref k_h0), (0, .ref b)])
    (kk : ∀ (H : Heap) (locs : List Loc) (ls : Array Slot) (t : Int32) (WC WR : va_W), CI g k_h0 k_rd k_tk k_tp k_sp k_dr k_dr_winds k_dr_lees k_dr_gustChances k_dr_gusts k_dr_cloths k_dr_trues k_dr_strengths k_dr_reefs k_dr_cornerNames k_dr_guildNames k_dr_pu k_dr_pu_op k_dr_pu_nu k_dr_pu_st k_dr_ho k_dr_ho_op k_dr_ho_nu k_dr_ho_st k_to k_to_winds k_to_lees k_to_gustChances k_to_gusts k_to_cloths k_to_trues k_to_strengths k_to_reefs k_to_pu k_to_pu_op k_to_pu_nu k_to_pu_st k_to_ho k_to_ho_op k_to_ho_nu k_to_ho_st k_no k_no_or k_no_re k_no_ch k_no_ho k_no_gu k_co k_va k_ou k_tr k_tr_or k_tr_re k_tr_ch k_tr_ho k_tr_gu k_ra k_or_ k_su k_ah k_td k_be k_hi k_sa k_ly k_nu k_si k_s_corners k_s_guilds k_s_wasUp k_s_toldAt k_s_untoldAt k_s_untold k_s_upBehind k_s_fitting k_s_groups k_t2 k_t2_or k_t2_re k_t2_ch k_t2_ho k_t2_gu k_bx k_bf t WC → RI g r_h0 r_m_tape r_m_text r_m_corners r_m_guilds r_m_gusts r_m_units r_m_draw r_m_told r_m_wind r_m_lee r_m_gust r_m_blow r_m_cloth r_m_truth r_m_strong r_m_reefTold r_m_ruleFrom r_m_ruleTo r_m_cName r_m_gName r_m_code r_m_codeNumber r_m_eWhat r_m_eSign r_m_pile r_m_all r_m_was r_m_kept r_m_laidRow r_m_fell r_m_good r_m_least r_m_with r_m_upBy r_m_sCorners r_m_sGuild r_m_sIs r_m_sTold r_m_sUntold r_m_parts r_m_boxAll r_m_isBoxed t WR → va_P g.1 vwCl (WC ++ WR) H → va_D A (WC ++ WR) → va_S A s.heap H locs → lv_has ls 4 [(3, .int (nI i)), (2, .ref r_h0), (1, .ref k_h0), (0, .ref b)] → W p l e room_1 s m #[Value.ref b] below meth c H locs nc ns Q (F0 m 1278 ls [])) : W p l e room_1 s m #[Value.ref b] below meth c H locs nc ns Q (F0 m 641 ls []) := by
  obtain ⟨hx, hb, hml, hr, hlocks, hown, hts, hE, hnm⟩ := id hcx
  refine lv_aload_n hx hb dL_law_641 rfl (lv_at hl 2 rfl) ?_
  refine lk_undo hnc hns hcx hA hl.1 hCI hP hD hS (fun r1 WC H locs hCI hP hD hS => ?_)
  refine lv_pop hx hb dL_law_645 rfl ?_
  refine lv_aload_n hx hb dL_law_646 rfl (lv_at hl 1 rfl) ?_
  have hP := P_perm hP List.perm_append_comm
  have hD := D_perm hD List.perm_append_comm
  refine lr_undo hnc hns hcx hA hl.1 hRI hP hD hS (fun r2 WR H locs hRI hP hD hS => ?_)
  have hP := P_perm hP List.perm_append_comm
  have hD := D_perm hD List.perm_append_comm
  refine lv_pop hx hb dL_law_650 rfl ?_
  refine lv_goto (tgt := 1278) hx hb dL_law_651 (by decide) ?_
  exact kk H locs ls t WC WR hCI hRI hP hD hS hl

set_option maxHeartbeats 4000000 in
set_option maxRecDepth 100000 in
theorem lc_16 {p : Program} {l : Launch} {e : Env} {s : State} {m : MethodId} {below : List Frame} {meth : Method} {c : Code} {g : Gx} {b L : Nat} {xs : Nat → Int32} {A : Nat → Prop} {nc ns : Nat} {z : Sg} {Q : State → Prop} {k_h0 k_rd k_tk k_tp k_sp k_dr k_dr_winds k_dr_lees k_dr_gustChances k_dr_gusts k_dr_cloths k_dr_trues k_dr_strengths k_dr_reefs k_dr_cornerNames k_dr_guildNames k_dr_pu k_dr_pu_op k_dr_pu_nu k_dr_pu_st k_dr_ho k_dr_ho_op k_dr_ho_nu k_dr_ho_st k_to k_to_winds k_to_lees k_to_gustChances k_to_gusts k_to_cloths k_to_trues k_to_strengths k_to_reefs k_to_pu k_to_pu_op k_to_pu_nu k_to_pu_st k_to_ho k_to_ho_op k_to_ho_nu k_to_ho_st k_no k_no_or k_no_re k_no_ch k_no_ho k_no_gu k_co k_va k_ou k_tr k_tr_or k_tr_re k_tr_ch k_tr_ho k_tr_gu k_ra k_or_ k_su k_ah k_td k_be k_hi k_sa k_ly k_nu k_si k_s_corners k_s_guilds k_s_wasUp k_s_toldAt k_s_untoldAt k_s_untold k_s_upBehind k_s_fitting k_s_groups k_t2 k_t2_or k_t2_re k_t2_ch k_t2_ho k_t2_gu k_bx k_bf r_h0 r_m_tape r_m_text r_m_corners r_m_guilds r_m_gusts r_m_units r_m_draw r_m_told r_m_wind r_m_lee r_m_gust r_m_blow r_m_cloth r_m_truth r_m_strong r_m_reefTold r_m_ruleFrom r_m_ruleTo r_m_cName r_m_gName r_m_code r_m_codeNumber r_m_eWhat r_m_eSign r_m_pile r_m_all r_m_was r_m_kept r_m_laidRow r_m_fell r_m_good r_m_least r_m_with r_m_upBy r_m_sCorners r_m_sGuild r_m_sIs r_m_sTold r_m_sUntold r_m_parts r_m_boxAll r_m_isBoxed : Nat} {i : Nat} {H : Heap} {locs : List Loc} {ls : Array Slot} {t : Int32} {WC WR : va_W} (hnc : nc ≤ 10000) (hns : ns ≤ 1000000) (hcx : Cx p s m #[Value.ref b] meth c cL_law 4 ret RL meth.name g) (hF : SEg z A s s.heap) (hX : va_X b L xs s s.heap) (hL : L ≤ 3072) (hbl : b < s.heap.size) (hbA : ¬ A b) (hA : ∀ q : Nat, s.heap.size ≤ q → A q) (hi : i + 6 ≤ L) (hCI : CI g k_h0 k_rd k_tk k_tp k_sp k_dr k_dr_winds k_dr_lees k_dr_gustChances k_dr_gusts k_dr_cloths k_dr_trues k_dr_strengths k_dr_reefs k_dr_cornerNames k_dr_guildNames k_dr_pu k_dr_pu_op k_dr_pu_nu k_dr_pu_st k_dr_ho k_dr_ho_op k_dr_ho_nu k_dr_ho_st k_to k_to_winds k_to_lees k_to_gustChances k_to_gusts k_to_cloths k_to_trues k_to_strengths k_to_reefs k_to_pu k_to_pu_op k_to_pu_nu k_to_pu_st k_to_ho k_to_ho_op k_to_ho_nu k_to_ho_st k_no k_no_or k_no_re k_no_ch k_no_ho k_no_gu k_co k_va k_ou k_tr k_tr_or k_tr_re k_tr_ch k_tr_ho k_tr_gu k_ra k_or_ k_su k_ah k_td k_be k_hi k_sa k_ly k_nu k_si k_s_corners k_s_guilds k_s_wasUp k_s_toldAt k_s_untoldAt k_s_untold k_s_upBehind k_s_fitting k_s_groups k_t2 k_t2_or k_t2_re k_t2_ch k_t2_ho k_t2_gu k_bx k_bf t WC) (hRI : RI g r_h0 r_m_tape r_m_text r_m_corners r_m_guilds r_m_gusts r_m_units r_m_draw r_m_told r_m_wind r_m_lee r_m_gust r_m_blow r_m_cloth r_m_truth r_m_strong r_m_reefTold r_m_ruleFrom r_m_ruleTo r_m_cName r_m_gName r_m_code r_m_codeNumber r_m_eWhat r_m_eSign r_m_pile r_m_all r_m_was r_m_kept r_m_laidRow r_m_fell r_m_good r_m_least r_m_with r_m_upBy r_m_sCorners r_m_sGuild r_m_sIs r_m_sTold r_m_sUntold r_m_parts r_m_boxAll r_m_isBoxed t WR) (hP : va_P g.1 vwCl (WC ++ WR) H) (hD : va_D A (WC ++ WR)) (hS : va_S A s.heap H locs) (hl : lv_has ls 4 [(3, .int (nI i)), (2, .ref r_h0), (1, .ref k_h0), (0, .ref b)])
    (kk : ∀ (H : Heap) (locs : List Loc) (ls : Array Slot) (t : Int32) (WC WR : va_W), CI g k_h0 k_rd k_tk k_tp k_sp k_dr k_dr_winds k_dr_lees k_dr_gustChances k_dr_gusts k_dr_cloths k_dr_trues k_dr_strengths k_dr_reefs k_dr_cornerNames k_dr_guildNames k_dr_pu k_dr_pu_op k_dr_pu_nu k_dr_pu_st k_dr_ho k_dr_ho_op k_dr_ho_nu k_dr_ho_st k_to k_to_winds k_to_lees k_to_gustChances k_to_gusts k_to_cloths k_to_trues k_to_strengths k_to_reefs k_to_pu k_to_pu_op k_to_pu_nu k_to_pu_st k_to_ho k_to_ho_op k_to_ho_nu k_to_ho_st k_no k_no_or k_no_re k_no_ch k_no_ho k_no_gu k_co k_va k_ou k_tr k_tr_or k_tr_re k_tr_ch k_tr_ho k_tr_gu k_ra k_or_ k_su k_ah k_td k_be k_hi k_sa k_ly k_nu k_si k_s_corners k_s_guilds k_s_wasUp k_s_toldAt k_s_untoldAt k_s_untold k_s_upBehind k_s_fitting k_s_groups k_t2 k_t2_or k_t2_re k_t2_ch k_t2_ho k_t2_gu k_bx k_bf t WC → RI g r_h0 r_m_tape r_m_text r_m_corners r_m_guilds r_m_gusts r_m_units r_m_draw r_m_told r_m_wind r_m_lee r_m_gust r_m_blow r_m_cloth r_m_truth r_m_strong r_m_reefTold r_m_ruleFrom r_m_ruleTo r_m_cName r_m_gName r_m_code r_m_codeNumber r_m_eWhat r_m_eSign r_m_pile r_m_all r_m_was r_m_kept r_m_laidRow r_m_fell r_m_good r_m_least r_m_with r_m_upBy r_m_sCorners r_m_sGuild r_m_sIs r_m_sTold r_m_sUntold r_m_parts r_m_boxAll r_m_isBoxed t WR → va_P g.1 vwCl (WC ++ WR) H → va_D A (WC ++ WR) → va_S A s.heap H locs → lv_has ls 4 [(3, .int (nI i)), (2, .ref r_h0), (1, .ref k_h0), (0, .ref b)] → W p l e room_1 s m #[Value.ref b] below meth c H locs nc ns Q (F0 m 1278 ls [])) : W p l e room_1 s m #[Value.ref b] below meth c H locs nc ns Q (F0 m 654 ls []) := by
  obtain ⟨hx, hb, hml, hr, hlocks, hown, hts, hE, hnm⟩ := id hcx
  refine lv_aload_n hx hb dL_law_654 rfl (lv_at hl 2 rfl) ?_
  refine lk_redo hnc hns hcx hA hl.1 hCI hP hD hS (fun r1 WC H locs hCI hP hD hS => ?_)
  refine lv_pop hx hb dL_law_658 rfl ?_
  refine lv_aload_n hx hb dL_law_659 rfl (lv_at hl 1 rfl) ?_
  have hP := P_perm hP List.perm_append_comm
  have hD := D_perm hD List.perm_append_comm
  refine lr_redo hnc hns hcx hA hl.1 hRI hP hD hS (fun r2 WR H locs hRI hP hD hS => ?_)
  have hP := P_perm hP List.perm_append_comm
  have hD := D_perm hD List.perm_append_comm
  refine lv_pop hx hb dL_law_663 rfl ?_
  refine lv_goto (tgt := 1278) hx hb dL_law_664 (by decide) ?_
  exact kk H locs ls t WC WR hCI hRI hP hD hS hl

set_option maxHeartbeats 4000000 in
set_option maxRecDepth 100000 in
theorem lc_17 {p : Program} {l : Launch} {e : Env} {s : State} {m : MethodId} {below : List Frame} {meth : Method} {c : Code} {g : Gx} {b L : Nat} {xs : Nat → Int32} {A : Nat → Prop} {nc ns : Nat} {z : Sg} {Q : State → Prop} {k_h0 k_rd k_tk k_tp k_sp k_dr k_dr_winds k_dr_lees k_dr_gustChances k_dr_gusts k_dr_cloths k_dr_trues k_dr_strengths k_dr_reefs k_dr_cornerNames k_dr_guildNames k_dr_pu k_dr_pu_op k_dr_pu_nu k_dr_pu_st k_dr_ho k_dr_ho_op k_dr_ho_nu k_dr_ho_st k_to k_to_winds k_to_lees k_to_gustChances k_to_gusts k_to_cloths k_to_trues k_to_strengths k_to_reefs k_to_pu k_to_pu_op k_to_pu_nu k_to_pu_st k_to_ho k_to_ho_op k_to_ho_nu k_to_ho_st k_no k_no_or k_no_re k_no_ch k_no_ho k_no_gu k_co k_va k_ou k_tr k_tr_or k_tr_re k_tr_ch k_tr_ho k_tr_gu k_ra k_or_ k_su k_ah k_td k_be k_hi k_sa k_ly k_nu k_si k_s_corners k_s_guilds k_s_wasUp k_s_toldAt k_s_untoldAt k_s_untold k_s_upBehind k_s_fitting k_s_groups k_t2 k_t2_or k_t2_re k_t2_ch k_t2_ho k_t2_gu k_bx k_bf r_h0 r_m_tape r_m_text r_m_corners r_m_guilds r_m_gusts r_m_units r_m_draw r_m_told r_m_wind r_m_lee r_m_gust r_m_blow r_m_cloth r_m_truth r_m_strong r_m_reefTold r_m_ruleFrom r_m_ruleTo r_m_cName r_m_gName r_m_code r_m_codeNumber r_m_eWhat r_m_eSign r_m_pile r_m_all r_m_was r_m_kept r_m_laidRow r_m_fell r_m_good r_m_least r_m_with r_m_upBy r_m_sCorners r_m_sGuild r_m_sIs r_m_sTold r_m_sUntold r_m_parts r_m_boxAll r_m_isBoxed : Nat} {i : Nat} {H : Heap} {locs : List Loc} {ls : Array Slot} {t : Int32} {WC WR : va_W} (hnc : nc ≤ 10000) (hns : ns ≤ 1000000) (hcx : Cx p s m #[Value.ref b] meth c cL_law 4 ret RL meth.name g) (hF : SEg z A s s.heap) (hX : va_X b L xs s s.heap) (hL : L ≤ 3072) (hbl : b < s.heap.size) (hbA : ¬ A b) (hA : ∀ q : Nat, s.heap.size ≤ q → A q) (hi : i + 6 ≤ L) (hCI : CI g k_h0 k_rd k_tk k_tp k_sp k_dr k_dr_winds k_dr_lees k_dr_gustChances k_dr_gusts k_dr_cloths k_dr_trues k_dr_strengths k_dr_reefs k_dr_cornerNames k_dr_guildNames k_dr_pu k_dr_pu_op k_dr_pu_nu k_dr_pu_st k_dr_ho k_dr_ho_op k_dr_ho_nu k_dr_ho_st k_to k_to_winds k_to_lees k_to_gustChances k_to_gusts k_to_cloths k_to_trues k_to_strengths k_to_reefs k_to_pu k_to_pu_op k_to_pu_nu k_to_pu_st k_to_ho k_to_ho_op k_to_ho_nu k_to_ho_st k_no k_no_or k_no_re k_no_ch k_no_ho k_no_gu k_co k_va k_ou k_tr k_tr_or k_tr_re k_tr_ch k_tr_ho k_tr_gu k_ra k_or_ k_su k_ah k_td k_be k_hi k_sa k_ly k_nu k_si k_s_corners k_s_guilds k_s_wasUp k_s_toldAt k_s_untoldAt k_s_untold k_s_upBehind k_s_fitting k_s_groups k_t2 k_t2_or k_t2_re k_t2_ch k_t2_ho k_t2_gu k_bx k_bf t WC) (hRI : RI g r_h0 r_m_tape r_m_text r_m_corners r_m_guilds r_m_gusts r_m_units r_m_draw r_m_told r_m_wind r_m_lee r_m_gust r_m_blow r_m_cloth r_m_truth r_m_strong r_m_reefTold r_m_ruleFrom r_m_ruleTo r_m_cName r_m_gName r_m_code r_m_codeNumber r_m_eWhat r_m_eSign r_m_pile r_m_all r_m_was r_m_kept r_m_laidRow r_m_fell r_m_good r_m_least r_m_with r_m_upBy r_m_sCorners r_m_sGuild r_m_sIs r_m_sTold r_m_sUntold r_m_parts r_m_boxAll r_m_isBoxed t WR) (hP : va_P g.1 vwCl (WC ++ WR) H) (hD : va_D A (WC ++ WR)) (hS : va_S A s.heap H locs) (hl : lv_has ls 4 [(3, .int (nI i)), (2, .ref r_h0), (1, .ref k_h0), (0, .ref b)])
    (kk : ∀ (H : Heap) (locs : List Loc) (ls : Array Slot) (t : Int32) (WC WR : va_W), CI g k_h0 k_rd k_tk k_tp k_sp k_dr k_dr_winds k_dr_lees k_dr_gustChances k_dr_gusts k_dr_cloths k_dr_trues k_dr_strengths k_dr_reefs k_dr_cornerNames k_dr_guildNames k_dr_pu k_dr_pu_op k_dr_pu_nu k_dr_pu_st k_dr_ho k_dr_ho_op k_dr_ho_nu k_dr_ho_st k_to k_to_winds k_to_lees k_to_gustChances k_to_gusts k_to_cloths k_to_trues k_to_strengths k_to_reefs k_to_pu k_to_pu_op k_to_pu_nu k_to_pu_st k_to_ho k_to_ho_op k_to_ho_nu k_to_ho_st k_no k_no_or k_no_re k_no_ch k_no_ho k_no_gu k_co k_va k_ou k_tr k_tr_or k_tr_re k_tr_ch k_tr_ho k_tr_gu k_ra k_or_ k_su k_ah k_td k_be k_hi k_sa k_ly k_nu k_si k_s_corners k_s_guilds k_s_wasUp k_s_toldAt k_s_untoldAt k_s_untold k_s_upBehind k_s_fitting k_s_groups k_t2 k_t2_or k_t2_re k_t2_ch k_t2_ho k_t2_gu k_bx k_bf t WC → RI g r_h0 r_m_tape r_m_text r_m_corners r_m_guilds r_m_gusts r_m_units r_m_draw r_m_told r_m_wind r_m_lee r_m_gust r_m_blow r_m_cloth r_m_truth r_m_strong r_m_reefTold r_m_ruleFrom r_m_ruleTo r_m_cName r_m_gName r_m_code r_m_codeNumber r_m_eWhat r_m_eSign r_m_pile r_m_all r_m_was r_m_kept r_m_laidRow r_m_fell r_m_good r_m_least r_m_with r_m_upBy r_m_sCorners r_m_sGuild r_m_sIs r_m_sTold r_m_sUntold r_m_parts r_m_boxAll r_m_isBoxed t WR → va_P g.1 vwCl (WC ++ WR) H → va_D A (WC ++ WR) → va_S A s.heap H locs → lv_has ls 4 [(3, .int (nI i)), (2, .ref r_h0), (1, .ref k_h0), (0, .ref b)] → W p l e room_1 s m #[Value.ref b] below meth c H locs nc ns Q (F0 m 1278 ls [])) : W p l e room_1 s m #[Value.ref b] below meth c H locs nc ns Q (F0 m 667 ls []) := by
  obtain ⟨hx, hb, hml, hr, hlocks, hown, hts, hE, hnm⟩ := id hcx
  refine lv_aload_n hx hb dL_law_667 rfl (lv_at hl 2 rfl) ?_
  refine lv_aload_n hx hb dL_law_668 rfl (lv_at hl 3 rfl) ?_
  refine lv_iload_n hx hb dL_law_669 rfl (lv_at hl 0 rfl) ?_
  refine lv_iconst (v := 1) hx hb dL_law_670 (by decide) ?_
  refine lv_iadd hx hb dL_law_671 ?_
  refine lv_tope (y := (nI (i + 1))) (nI_add (i) (1)) ?_
  refine sc_ld hx hb hX hbl hbA hS (i + 1) rfl (by omega) (by omega) dL_law_672 ?_
  refine lv_aload_n hx hb dL_law_673 rfl (lv_at hl 3 rfl) ?_
  refine lv_iload_n hx hb dL_law_674 rfl (lv_at hl 0 rfl) ?_
  refine lv_iconst (v := 2) hx hb dL_law_675 (by decide) ?_
  refine lv_iadd hx hb dL_law_676 ?_
  refine lv_tope (y := (nI (i + 2))) (nI_add (i) (2)) ?_
  refine sc_ld hx hb hX hbl hbA hS (i + 2) rfl (by omega) (by omega) dL_law_677 ?_
  refine lk_will ((xs (i + 1))) ((xs (i + 2))) hnc hns hcx hA hl.1 hCI hP hD hS (fun r1 WC H locs hCI hP hD hS => ?_)
  refine lv_pop hx hb dL_law_681 rfl ?_
  refine lv_aload_n hx hb dL_law_682 rfl (lv_at hl 1 rfl) ?_
  refine lv_aload_n hx hb dL_law_683 rfl (lv_at hl 3 rfl) ?_
  refine lv_iload_n hx hb dL_law_684 rfl (lv_at hl 0 rfl) ?_
  refine lv_iconst (v := 1) hx hb dL_law_685 (by decide) ?_
  refine lv_iadd hx hb dL_law_686 ?_
  refine lv_tope (y := (nI (i + 1))) (nI_add (i) (1)) ?_
  refine sc_ld hx hb hX hbl hbA hS (i + 1) rfl (by omega) (by omega) dL_law_687 ?_
  refine lv_aload_n hx hb dL_law_688 rfl (lv_at hl 3 rfl) ?_
  refine lv_iload_n hx hb dL_law_689 rfl (lv_at hl 0 rfl) ?_
  refine lv_iconst (v := 2) hx hb dL_law_690 (by decide) ?_
  refine lv_iadd hx hb dL_law_691 ?_
  refine lv_tope (y := (nI (i + 2))) (nI_add (i) (2)) ?_
  refine sc_ld hx hb hX hbl hbA hS (i + 2) rfl (by omega) (by omega) dL_law_692 ?_
  have hP := P_perm hP List.perm_append_comm
  have hD := D_perm hD List.perm_append_comm
  refine lr_will ((xs (i + 1))) ((xs (i + 2))) hnc hns hcx hA hl.1 hRI hP hD hS (fun r2 WR H locs hRI hP hD hS => ?_)
  have hP := P_perm hP List.perm_append_comm
  have hD := D_perm hD List.perm_append_comm
  refine lv_pop hx hb dL_law_696 rfl ?_
  refine lv_goto (tgt := 1278) hx hb dL_law_697 (by decide) ?_
  exact kk H locs ls t WC WR hCI hRI hP hD hS hl

set_option maxHeartbeats 4000000 in
set_option maxRecDepth 100000 in
theorem lc_18 {p : Program} {l : Launch} {e : Env} {s : State} {m : MethodId} {below : List Frame} {meth : Method} {c : Code} {g : Gx} {b L : Nat} {xs : Nat → Int32} {A : Nat → Prop} {nc ns : Nat} {z : Sg} {Q : State → Prop} {k_h0 k_rd k_tk k_tp k_sp k_dr k_dr_winds k_dr_lees k_dr_gustChances k_dr_gusts k_dr_cloths k_dr_trues k_dr_strengths k_dr_reefs k_dr_cornerNames k_dr_guildNames k_dr_pu k_dr_pu_op k_dr_pu_nu k_dr_pu_st k_dr_ho k_dr_ho_op k_dr_ho_nu k_dr_ho_st k_to k_to_winds k_to_lees k_to_gustChances k_to_gusts k_to_cloths k_to_trues k_to_strengths k_to_reefs k_to_pu k_to_pu_op k_to_pu_nu k_to_pu_st k_to_ho k_to_ho_op k_to_ho_nu k_to_ho_st k_no k_no_or k_no_re k_no_ch k_no_ho k_no_gu k_co k_va k_ou k_tr k_tr_or k_tr_re k_tr_ch k_tr_ho k_tr_gu k_ra k_or_ k_su k_ah k_td k_be k_hi k_sa k_ly k_nu k_si k_s_corners k_s_guilds k_s_wasUp k_s_toldAt k_s_untoldAt k_s_untold k_s_upBehind k_s_fitting k_s_groups k_t2 k_t2_or k_t2_re k_t2_ch k_t2_ho k_t2_gu k_bx k_bf r_h0 r_m_tape r_m_text r_m_corners r_m_guilds r_m_gusts r_m_units r_m_draw r_m_told r_m_wind r_m_lee r_m_gust r_m_blow r_m_cloth r_m_truth r_m_strong r_m_reefTold r_m_ruleFrom r_m_ruleTo r_m_cName r_m_gName r_m_code r_m_codeNumber r_m_eWhat r_m_eSign r_m_pile r_m_all r_m_was r_m_kept r_m_laidRow r_m_fell r_m_good r_m_least r_m_with r_m_upBy r_m_sCorners r_m_sGuild r_m_sIs r_m_sTold r_m_sUntold r_m_parts r_m_boxAll r_m_isBoxed : Nat} {i : Nat} {H : Heap} {locs : List Loc} {ls : Array Slot} {t : Int32} {WC WR : va_W} (hnc : nc ≤ 10000) (hns : ns ≤ 1000000) (hcx : Cx p s m #[Value.ref b] meth c cL_law 4 ret RL meth.name g) (hF : SEg z A s s.heap) (hX : va_X b L xs s s.heap) (hL : L ≤ 3072) (hbl : b < s.heap.size) (hbA : ¬ A b) (hA : ∀ q : Nat, s.heap.size ≤ q → A q) (hi : i + 6 ≤ L) (hCI : CI g k_h0 k_rd k_tk k_tp k_sp k_dr k_dr_winds k_dr_lees k_dr_gustChances k_dr_gusts k_dr_cloths k_dr_trues k_dr_strengths k_dr_reefs k_dr_cornerNames k_dr_guildNames k_dr_pu k_dr_pu_op k_dr_pu_nu k_dr_pu_st k_dr_ho k_dr_ho_op k_dr_ho_nu k_dr_ho_st k_to k_to_winds k_to_lees k_to_gustChances k_to_gusts k_to_cloths k_to_trues k_to_strengths k_to_reefs k_to_pu k_to_pu_op k_to_pu_nu k_to_pu_st k_to_ho k_to_ho_op k_to_ho_nu k_to_ho_st k_no k_no_or k_no_re k_no_ch k_no_ho k_no_gu k_co k_va k_ou k_tr k_tr_or k_tr_re k_tr_ch k_tr_ho k_tr_gu k_ra k_or_ k_su k_ah k_td k_be k_hi k_sa k_ly k_nu k_si k_s_corners k_s_guilds k_s_wasUp k_s_toldAt k_s_untoldAt k_s_untold k_s_upBehind k_s_fitting k_s_groups k_t2 k_t2_or k_t2_re k_t2_ch k_t2_ho k_t2_gu k_bx k_bf t WC) (hRI : RI g r_h0 r_m_tape r_m_text r_m_corners r_m_guilds r_m_gusts r_m_units r_m_draw r_m_told r_m_wind r_m_lee r_m_gust r_m_blow r_m_cloth r_m_truth r_m_strong r_m_reefTold r_m_ruleFrom r_m_ruleTo r_m_cName r_m_gName r_m_code r_m_codeNumber r_m_eWhat r_m_eSign r_m_pile r_m_all r_m_was r_m_kept r_m_laidRow r_m_fell r_m_good r_m_least r_m_with r_m_upBy r_m_sCorners r_m_sGuild r_m_sIs r_m_sTold r_m_sUntold r_m_parts r_m_boxAll r_m_isBoxed t WR) (hP : va_P g.1 vwCl (WC ++ WR) H) (hD : va_D A (WC ++ WR)) (hS : va_S A s.heap H locs) (hl : lv_has ls 4 [(3, .int (nI i)), (2, .ref r_h0), (1, .ref k_h0), (0, .ref b)])
    (kk : ∀ (H : Heap) (locs : List Loc) (ls : Array Slot) (t : Int32) (WC WR : va_W), CI g k_h0 k_rd k_tk k_tp k_sp k_dr k_dr_winds k_dr_lees k_dr_gustChances k_dr_gusts k_dr_cloths k_dr_trues k_dr_strengths k_dr_reefs k_dr_cornerNames k_dr_guildNames k_dr_pu k_dr_pu_op k_dr_pu_nu k_dr_pu_st k_dr_ho k_dr_ho_op k_dr_ho_nu k_dr_ho_st k_to k_to_winds k_to_lees k_to_gustChances k_to_gusts k_to_cloths k_to_trues k_to_strengths k_to_reefs k_to_pu k_to_pu_op k_to_pu_nu k_to_pu_st k_to_ho k_to_ho_op k_to_ho_nu k_to_ho_st k_no k_no_or k_no_re k_no_ch k_no_ho k_no_gu k_co k_va k_ou k_tr k_tr_or k_tr_re k_tr_ch k_tr_ho k_tr_gu k_ra k_or_ k_su k_ah k_td k_be k_hi k_sa k_ly k_nu k_si k_s_corners k_s_guilds k_s_wasUp k_s_toldAt k_s_untoldAt k_s_untold k_s_upBehind k_s_fitting k_s_groups k_t2 k_t2_or k_t2_re k_t2_ch k_t2_ho k_t2_gu k_bx k_bf t WC → RI g r_h0 r_m_tape r_m_text r_m_corners r_m_guilds r_m_gusts r_m_units r_m_draw r_m_told r_m_wind r_m_lee r_m_gust r_m_blow r_m_cloth r_m_truth r_m_strong r_m_reefTold r_m_ruleFrom r_m_ruleTo r_m_cName r_m_gName r_m_code r_m_codeNumber r_m_eWhat r_m_eSign r_m_pile r_m_all r_m_was r_m_kept r_m_laidRow r_m_fell r_m_good r_m_least r_m_with r_m_upBy r_m_sCorners r_m_sGuild r_m_sIs r_m_sTold r_m_sUntold r_m_parts r_m_boxAll r_m_isBoxed t WR → va_P g.1 vwCl (WC ++ WR) H → va_D A (WC ++ WR) → va_S A s.heap H locs → lv_has ls 4 [(3, .int (nI i)), (2, .ref r_h0), (1, .ref k_h0), (0, .ref b)] → W p l e room_1 s m #[Value.ref b] below meth c H locs nc ns Q (F0 m 1278 ls [])) : W p l e room_1 s m #[Value.ref b] below meth c H locs nc ns Q (F0 m 700 ls []) := by
  obtain ⟨hx, hb, hml, hr, hlocks, hown, hts, hE, hnm⟩ := id hcx
  refine lv_aload_n hx hb dL_law_700 rfl (lv_at hl 2 rfl) ?_
  refine lv_aload_n hx hb dL_law_701 rfl (lv_at hl 3 rfl) ?_
  refine lv_iload_n hx hb dL_law_702 rfl (lv_at hl 0 rfl) ?_
  refine lv_iconst (v := 1) hx hb dL_law_703 (by decide) ?_
  refine lv_iadd hx hb dL_law_704 ?_
  refine lv_tope (y := (nI (i + 1))) (nI_add (i) (1)) ?_
  refine sc_ld hx hb hX hbl hbA hS (i + 1) rfl (by omega) (by omega) dL_law_705 ?_
  refine lk_far ((xs (i + 1))) hnc hns hcx hA hl.1 hCI hP hD hS (fun r1 WC H locs hCI hP hD hS => ?_)
  refine lv_pop hx hb dL_law_709 rfl ?_
  refine lv_aload_n hx hb dL_law_710 rfl (lv_at hl 1 rfl) ?_
  refine lv_aload_n hx hb dL_law_711 rfl (lv_at hl 3 rfl) ?_
  refine lv_iload_n hx hb dL_law_712 rfl (lv_at hl 0 rfl) ?_
  refine lv_iconst (v := 1) hx hb dL_law_713 (by decide) ?_
  refine lv_iadd hx hb dL_law_714 ?_
  refine lv_tope (y := (nI (i + 1))) (nI_add (i) (1)) ?_
  refine sc_ld hx hb hX hbl hbA hS (i + 1) rfl (by omega) (by omega) dL_law_715 ?_
  have hP := P_perm hP List.perm_append_comm
  have hD := D_perm hD List.perm_append_comm
  refine lr_far ((xs (i + 1))) hnc hns hcx hA hl.1 hRI hP hD hS (fun r2 WR H locs hRI hP hD hS => ?_)
  have hP := P_perm hP List.perm_append_comm
  have hD := D_perm hD List.perm_append_comm
  refine lv_pop hx hb dL_law_719 rfl ?_
  refine lv_goto (tgt := 1278) hx hb dL_law_720 (by decide) ?_
  exact kk H locs ls t WC WR hCI hRI hP hD hS hl

set_option maxHeartbeats 4000000 in
set_option maxRecDepth 100000 in
theorem lc_19 {p : Program} {l : Launch} {e : Env} {s : State} {m : MethodId} {below : List Frame} {meth : Method} {c : Code} {g : Gx} {b L : Nat} {xs : Nat → Int32} {A : Nat → Prop} {nc ns : Nat} {z : Sg} {Q : State → Prop} {k_h0 k_rd k_tk k_tp k_sp k_dr k_dr_winds k_dr_lees k_dr_gustChances k_dr_gusts k_dr_cloths k_dr_trues k_dr_strengths k_dr_reefs k_dr_cornerNames k_dr_guildNames k_dr_pu k_dr_pu_op k_dr_pu_nu k_dr_pu_st k_dr_ho k_dr_ho_op k_dr_ho_nu k_dr_ho_st k_to k_to_winds k_to_lees k_to_gustChances k_to_gusts k_to_cloths k_to_trues k_to_strengths k_to_reefs k_to_pu k_to_pu_op k_to_pu_nu k_to_pu_st k_to_ho k_to_ho_op k_to_ho_nu k_to_ho_st k_no k_no_or k_no_re k_no_ch k_no_ho k_no_gu k_co k_va k_ou k_tr k_tr_or k_tr_re k_tr_ch k_tr_ho k_tr_gu k_ra k_or_ k_su k_ah k_td k_be k_hi k_sa k_ly k_nu k_si k_s_corners k_s_guilds k_s_wasUp k_s_toldAt k_s_untoldAt k_s_untold k_s_upBehind k_s_fitting k_s_groups k_t2 k_t2_or k_t2_re k_t2_ch k_t2_ho k_t2_gu k_bx k_bf r_h0 r_m_tape r_m_text r_m_corners r_m_guilds r_m_gusts r_m_units r_m_draw r_m_told r_m_wind r_m_lee r_m_gust r_m_blow r_m_cloth r_m_truth r_m_strong r_m_reefTold r_m_ruleFrom r_m_ruleTo r_m_cName r_m_gName r_m_code r_m_codeNumber r_m_eWhat r_m_eSign r_m_pile r_m_all r_m_was r_m_kept r_m_laidRow r_m_fell r_m_good r_m_least r_m_with r_m_upBy r_m_sCorners r_m_sGuild r_m_sIs r_m_sTold r_m_sUntold r_m_parts r_m_boxAll r_m_isBoxed : Nat} {i : Nat} {H : Heap} {locs : List Loc} {ls : Array Slot} {t : Int32} {WC WR : va_W} (hnc : nc ≤ 10000) (hns : ns ≤ 1000000) (hcx : Cx p s m #[Value.ref b] meth c cL_law 4 ret RL meth.name g) (hF : SEg z A s s.heap) (hX : va_X b L xs s s.heap) (hL : L ≤ 3072) (hbl : b < s.heap.size) (hbA : ¬ A b) (hA : ∀ q : Nat, s.heap.size ≤ q → A q) (hi : i + 6 ≤ L) (hCI : CI g k_h0 k_rd k_tk k_tp k_sp k_dr k_dr_winds k_dr_lees k_dr_gustChances k_dr_gusts k_dr_cloths k_dr_trues k_dr_strengths k_dr_reefs k_dr_cornerNames k_dr_guildNames k_dr_pu k_dr_pu_op k_dr_pu_nu k_dr_pu_st k_dr_ho k_dr_ho_op k_dr_ho_nu k_dr_ho_st k_to k_to_winds k_to_lees k_to_gustChances k_to_gusts k_to_cloths k_to_trues k_to_strengths k_to_reefs k_to_pu k_to_pu_op k_to_pu_nu k_to_pu_st k_to_ho k_to_ho_op k_to_ho_nu k_to_ho_st k_no k_no_or k_no_re k_no_ch k_no_ho k_no_gu k_co k_va k_ou k_tr k_tr_or k_tr_re k_tr_ch k_tr_ho k_tr_gu k_ra k_or_ k_su k_ah k_td k_be k_hi k_sa k_ly k_nu k_si k_s_corners k_s_guilds k_s_wasUp k_s_toldAt k_s_untoldAt k_s_untold k_s_upBehind k_s_fitting k_s_groups k_t2 k_t2_or k_t2_re k_t2_ch k_t2_ho k_t2_gu k_bx k_bf t WC) (hRI : RI g r_h0 r_m_tape r_m_text r_m_corners r_m_guilds r_m_gusts r_m_units r_m_draw r_m_told r_m_wind r_m_lee r_m_gust r_m_blow r_m_cloth r_m_truth r_m_strong r_m_reefTold r_m_ruleFrom r_m_ruleTo r_m_cName r_m_gName r_m_code r_m_codeNumber r_m_eWhat r_m_eSign r_m_pile r_m_all r_m_was r_m_kept r_m_laidRow r_m_fell r_m_good r_m_least r_m_with r_m_upBy r_m_sCorners r_m_sGuild r_m_sIs r_m_sTold r_m_sUntold r_m_parts r_m_boxAll r_m_isBoxed t WR) (hP : va_P g.1 vwCl (WC ++ WR) H) (hD : va_D A (WC ++ WR)) (hS : va_S A s.heap H locs) (hl : lv_has ls 4 [(3, .int (nI i)), (2, .ref r_h0), (1, .ref k_h0), (0, .ref b)])
    (kk : ∀ (H : Heap) (locs : List Loc) (ls : Array Slot) (t : Int32) (WC WR : va_W), CI g k_h0 k_rd k_tk k_tp k_sp k_dr k_dr_winds k_dr_lees k_dr_gustChances k_dr_gusts k_dr_cloths k_dr_trues k_dr_strengths k_dr_reefs k_dr_cornerNames k_dr_guildNames k_dr_pu k_dr_pu_op k_dr_pu_nu k_dr_pu_st k_dr_ho k_dr_ho_op k_dr_ho_nu k_dr_ho_st k_to k_to_winds k_to_lees k_to_gustChances k_to_gusts k_to_cloths k_to_trues k_to_strengths k_to_reefs k_to_pu k_to_pu_op k_to_pu_nu k_to_pu_st k_to_ho k_to_ho_op k_to_ho_nu k_to_ho_st k_no k_no_or k_no_re k_no_ch k_no_ho k_no_gu k_co k_va k_ou k_tr k_tr_or k_tr_re k_tr_ch k_tr_ho k_tr_gu k_ra k_or_ k_su k_ah k_td k_be k_hi k_sa k_ly k_nu k_si k_s_corners k_s_guilds k_s_wasUp k_s_toldAt k_s_untoldAt k_s_untold k_s_upBehind k_s_fitting k_s_groups k_t2 k_t2_or k_t2_re k_t2_ch k_t2_ho k_t2_gu k_bx k_bf t WC → RI g r_h0 r_m_tape r_m_text r_m_corners r_m_guilds r_m_gusts r_m_units r_m_draw r_m_told r_m_wind r_m_lee r_m_gust r_m_blow r_m_cloth r_m_truth r_m_strong r_m_reefTold r_m_ruleFrom r_m_ruleTo r_m_cName r_m_gName r_m_code r_m_codeNumber r_m_eWhat r_m_eSign r_m_pile r_m_all r_m_was r_m_kept r_m_laidRow r_m_fell r_m_good r_m_least r_m_with r_m_upBy r_m_sCorners r_m_sGuild r_m_sIs r_m_sTold r_m_sUntold r_m_parts r_m_boxAll r_m_isBoxed t WR → va_P g.1 vwCl (WC ++ WR) H → va_D A (WC ++ WR) → va_S A s.heap H locs → lv_has ls 4 [(3, .int (nI i)), (2, .ref r_h0), (1, .ref k_h0), (0, .ref b)] → W p l e room_1 s m #[Value.ref b] below meth c H locs nc ns Q (F0 m 1278 ls [])) : W p l e room_1 s m #[Value.ref b] below meth c H locs nc ns Q (F0 m 723 ls []) := by
  obtain ⟨hx, hb, hml, hr, hlocks, hown, hts, hE, hnm⟩ := id hcx
  refine lv_aload_n hx hb dL_law_723 rfl (lv_at hl 2 rfl) ?_
  refine lv_aload_n hx hb dL_law_724 rfl (lv_at hl 3 rfl) ?_
  refine lv_iload_n hx hb dL_law_725 rfl (lv_at hl 0 rfl) ?_
  refine lv_iconst (v := 1) hx hb dL_law_726 (by decide) ?_
  refine lv_iadd hx hb dL_law_727 ?_
  refine lv_tope (y := (nI (i + 1))) (nI_add (i) (1)) ?_
  refine sc_ld hx hb hX hbl hbA hS (i + 1) rfl (by omega) (by omega) dL_law_728 ?_
  refine lk_least ((xs (i + 1))) hnc hns hcx hA hl.1 hCI hP hD hS (fun r1 WC H locs hCI hP hD hS => ?_)
  refine lv_pop hx hb dL_law_732 rfl ?_
  refine lv_aload_n hx hb dL_law_733 rfl (lv_at hl 1 rfl) ?_
  refine lv_aload_n hx hb dL_law_734 rfl (lv_at hl 3 rfl) ?_
  refine lv_iload_n hx hb dL_law_735 rfl (lv_at hl 0 rfl) ?_
  refine lv_iconst (v := 1) hx hb dL_law_736 (by decide) ?_
  refine lv_iadd hx hb dL_law_737 ?_
  refine lv_tope (y := (nI (i + 1))) (nI_add (i) (1)) ?_
  refine sc_ld hx hb hX hbl hbA hS (i + 1) rfl (by omega) (by omega) dL_law_738 ?_
  have hP := P_perm hP List.perm_append_comm
  have hD := D_perm hD List.perm_append_comm
  refine lr_least ((xs (i + 1))) hnc hns hcx hA hl.1 hRI hP hD hS (fun r2 WR H locs hRI hP hD hS => ?_)
  have hP := P_perm hP List.perm_append_comm
  have hD := D_perm hD List.perm_append_comm
  refine lv_pop hx hb dL_law_742 rfl ?_
  refine lv_goto (tgt := 1278) hx hb dL_law_743 (by decide) ?_
  exact kk H locs ls t WC WR hCI hRI hP hD hS hl

set_option maxHeartbeats 4000000 in
set_option maxRecDepth 100000 in
theorem lc_20 {p : Program} {l : Launch} {e : Env} {s : State} {m : MethodId} {below : List Frame} {meth : Method} {c : Code} {g : Gx} {b L : Nat} {xs : Nat → Int32} {A : Nat → Prop} {nc ns : Nat} {z : Sg} {Q : State → Prop} {k_h0 k_rd k_tk k_tp k_sp k_dr k_dr_winds k_dr_lees k_dr_gustChances k_dr_gusts k_dr_cloths k_dr_trues k_dr_strengths k_dr_reefs k_dr_cornerNames k_dr_guildNames k_dr_pu k_dr_pu_op k_dr_pu_nu k_dr_pu_st k_dr_ho k_dr_ho_op k_dr_ho_nu k_dr_ho_st k_to k_to_winds k_to_lees k_to_gustChances k_to_gusts k_to_cloths k_to_trues k_to_strengths k_to_reefs k_to_pu k_to_pu_op k_to_pu_nu k_to_pu_st k_to_ho k_to_ho_op k_to_ho_nu k_to_ho_st k_no k_no_or k_no_re k_no_ch k_no_ho k_no_gu k_co k_va k_ou k_tr k_tr_or k_tr_re k_tr_ch k_tr_ho k_tr_gu k_ra k_or_ k_su k_ah k_td k_be k_hi k_sa k_ly k_nu k_si k_s_corners k_s_guilds k_s_wasUp k_s_toldAt k_s_untoldAt k_s_untold k_s_upBehind k_s_fitting k_s_groups k_t2 k_t2_or k_t2_re k_t2_ch k_t2_ho k_t2_gu k_bx k_bf r_h0 r_m_tape r_m_text r_m_corners r_m_guilds r_m_gusts r_m_units r_m_draw r_m_told r_m_wind r_m_lee r_m_gust r_m_blow r_m_cloth r_m_truth r_m_strong r_m_reefTold r_m_ruleFrom r_m_ruleTo r_m_cName r_m_gName r_m_code r_m_codeNumber r_m_eWhat r_m_eSign r_m_pile r_m_all r_m_was r_m_kept r_m_laidRow r_m_fell r_m_good r_m_least r_m_with r_m_upBy r_m_sCorners r_m_sGuild r_m_sIs r_m_sTold r_m_sUntold r_m_parts r_m_boxAll r_m_isBoxed : Nat} {i : Nat} {H : Heap} {locs : List Loc} {ls : Array Slot} {t : Int32} {WC WR : va_W} (hnc : nc ≤ 10000) (hns : ns ≤ 1000000) (hcx : Cx p s m #[Value.ref b] meth c cL_law 4 ret RL meth.name g) (hF : SEg z A s s.heap) (hX : va_X b L xs s s.heap) (hL : L ≤ 3072) (hbl : b < s.heap.size) (hbA : ¬ A b) (hA : ∀ q : Nat, s.heap.size ≤ q → A q) (hi : i + 6 ≤ L) (hCI : CI g k_h0 k_rd k_tk k_tp k_sp k_dr k_dr_winds k_dr_lees k_dr_gustChances k_dr_gusts k_dr_cloths k_dr_trues k_dr_strengths k_dr_reefs k_dr_cornerNames k_dr_guildNames k_dr_pu k_dr_pu_op k_dr_pu_nu k_dr_pu_st k_dr_ho k_dr_ho_op k_dr_ho_nu k_dr_ho_st k_to k_to_winds k_to_lees k_to_gustChances k_to_gusts k_to_cloths k_to_trues k_to_strengths k_to_reefs k_to_pu k_to_pu_op k_to_pu_nu k_to_pu_st k_to_ho k_to_ho_op k_to_ho_nu k_to_ho_st k_no k_no_or k_no_re k_no_ch k_no_ho k_no_gu k_co k_va k_ou k_tr k_tr_or k_tr_re k_tr_ch k_tr_ho k_tr_gu k_ra k_or_ k_su k_ah k_td k_be k_hi k_sa k_ly k_nu k_si k_s_corners k_s_guilds k_s_wasUp k_s_toldAt k_s_untoldAt k_s_untold k_s_upBehind k_s_fitting k_s_groups k_t2 k_t2_or k_t2_re k_t2_ch k_t2_ho k_t2_gu k_bx k_bf t WC) (hRI : RI g r_h0 r_m_tape r_m_text r_m_corners r_m_guilds r_m_gusts r_m_units r_m_draw r_m_told r_m_wind r_m_lee r_m_gust r_m_blow r_m_cloth r_m_truth r_m_strong r_m_reefTold r_m_ruleFrom r_m_ruleTo r_m_cName r_m_gName r_m_code r_m_codeNumber r_m_eWhat r_m_eSign r_m_pile r_m_all r_m_was r_m_kept r_m_laidRow r_m_fell r_m_good r_m_least r_m_with r_m_upBy r_m_sCorners r_m_sGuild r_m_sIs r_m_sTold r_m_sUntold r_m_parts r_m_boxAll r_m_isBoxed t WR) (hP : va_P g.1 vwCl (WC ++ WR) H) (hD : va_D A (WC ++ WR)) (hS : va_S A s.heap H locs) (hl : lv_has ls 4 [(3, .int (nI i)), (2, .ref r_h0), (1, .ref k_h0), (0, .ref b)])
    (kk : ∀ (H : Heap) (locs : List Loc) (ls : Array Slot) (t : Int32) (WC WR : va_W), CI g k_h0 k_rd k_tk k_tp k_sp k_dr k_dr_winds k_dr_lees k_dr_gustChances k_dr_gusts k_dr_cloths k_dr_trues k_dr_strengths k_dr_reefs k_dr_cornerNames k_dr_guildNames k_dr_pu k_dr_pu_op k_dr_pu_nu k_dr_pu_st k_dr_ho k_dr_ho_op k_dr_ho_nu k_dr_ho_st k_to k_to_winds k_to_lees k_to_gustChances k_to_gusts k_to_cloths k_to_trues k_to_strengths k_to_reefs k_to_pu k_to_pu_op k_to_pu_nu k_to_pu_st k_to_ho k_to_ho_op k_to_ho_nu k_to_ho_st k_no k_no_or k_no_re k_no_ch k_no_ho k_no_gu k_co k_va k_ou k_tr k_tr_or k_tr_re k_tr_ch k_tr_ho k_tr_gu k_ra k_or_ k_su k_ah k_td k_be k_hi k_sa k_ly k_nu k_si k_s_corners k_s_guilds k_s_wasUp k_s_toldAt k_s_untoldAt k_s_untold k_s_upBehind k_s_fitting k_s_groups k_t2 k_t2_or k_t2_re k_t2_ch k_t2_ho k_t2_gu k_bx k_bf t WC → RI g r_h0 r_m_tape r_m_text r_m_corners r_m_guilds r_m_gusts r_m_units r_m_draw r_m_told r_m_wind r_m_lee r_m_gust r_m_blow r_m_cloth r_m_truth r_m_strong r_m_reefTold r_m_ruleFrom r_m_ruleTo r_m_cName r_m_gName r_m_code r_m_codeNumber r_m_eWhat r_m_eSign r_m_pile r_m_all r_m_was r_m_kept r_m_laidRow r_m_fell r_m_good r_m_least r_m_with r_m_upBy r_m_sCorners r_m_sGuild r_m_sIs r_m_sTold r_m_sUntold r_m_parts r_m_boxAll r_m_isBoxed t WR → va_P g.1 vwCl (WC ++ WR) H → va_D A (WC ++ WR) → va_S A s.heap H locs → lv_has ls 4 [(3, .int (nI i)), (2, .ref r_h0), (1, .ref k_h0), (0, .ref b)] → W p l e room_1 s m #[Value.ref b] below meth c H locs nc ns Q (F0 m 1278 ls [])) : W p l e room_1 s m #[Value.ref b] below meth c H locs nc ns Q (F0 m 746 ls []) := by
  obtain ⟨hx, hb, hml, hr, hlocks, hown, hts, hE, hnm⟩ := id hcx
  refine lv_aload_n hx hb dL_law_746 rfl (lv_at hl 2 rfl) ?_
  refine lk_largest hnc hns hcx hA hl.1 hCI hP hD hS (fun r1 WC H locs hCI hP hD hS => ?_)
  refine lv_pop hx hb dL_law_750 rfl ?_
  refine lv_aload_n hx hb dL_law_751 rfl (lv_at hl 1 rfl) ?_
  have hP := P_perm hP List.perm_append_comm
  have hD := D_perm hD List.perm_append_comm
  refine lr_largest hnc hns hcx hA hl.1 hRI hP hD hS (fun r2 WR H locs hRI hP hD hS => ?_)
  have hP := P_perm hP List.perm_append_comm
  have hD := D_perm hD List.perm_append_comm
  refine lv_pop hx hb dL_law_755 rfl ?_
  refine lv_goto (tgt := 1278) hx hb dL_law_756 (by decide) ?_
  exact kk H locs ls t WC WR hCI hRI hP hD hS hl

set_option maxHeartbeats 4000000 in
set_option maxRecDepth 100000 in
theorem lc_21 {p : Program} {l : Launch} {e : Env} {s : State} {m : MethodId} {below : List Frame} {meth : Method} {c : Code} {g : Gx} {b L : Nat} {xs : Nat → Int32} {A : Nat → Prop} {nc ns : Nat} {z : Sg} {Q : State → Prop} {k_h0 k_rd k_tk k_tp k_sp k_dr k_dr_winds k_dr_lees k_dr_gustChances k_dr_gusts k_dr_cloths k_dr_trues k_dr_strengths k_dr_reefs k_dr_cornerNames k_dr_guildNames k_dr_pu k_dr_pu_op k_dr_pu_nu k_dr_pu_st k_dr_ho k_dr_ho_op k_dr_ho_nu k_dr_ho_st k_to k_to_winds k_to_lees k_to_gustChances k_to_gusts k_to_cloths k_to_trues k_to_strengths k_to_reefs k_to_pu k_to_pu_op k_to_pu_nu k_to_pu_st k_to_ho k_to_ho_op k_to_ho_nu k_to_ho_st k_no k_no_or k_no_re k_no_ch k_no_ho k_no_gu k_co k_va k_ou k_tr k_tr_or k_tr_re k_tr_ch k_tr_ho k_tr_gu k_ra k_or_ k_su k_ah k_td k_be k_hi k_sa k_ly k_nu k_si k_s_corners k_s_guilds k_s_wasUp k_s_toldAt k_s_untoldAt k_s_untold k_s_upBehind k_s_fitting k_s_groups k_t2 k_t2_or k_t2_re k_t2_ch k_t2_ho k_t2_gu k_bx k_bf r_h0 r_m_tape r_m_text r_m_corners r_m_guilds r_m_gusts r_m_units r_m_draw r_m_told r_m_wind r_m_lee r_m_gust r_m_blow r_m_cloth r_m_truth r_m_strong r_m_reefTold r_m_ruleFrom r_m_ruleTo r_m_cName r_m_gName r_m_code r_m_codeNumber r_m_eWhat r_m_eSign r_m_pile r_m_all r_m_was r_m_kept r_m_laidRow r_m_fell r_m_good r_m_least r_m_with r_m_upBy r_m_sCorners r_m_sGuild r_m_sIs r_m_sTold r_m_sUntold r_m_parts r_m_boxAll r_m_isBoxed : Nat} {i : Nat} {H : Heap} {locs : List Loc} {ls : Array Slot} {t : Int32} {WC WR : va_W} (hnc : nc ≤ 10000) (hns : ns ≤ 1000000) (hcx : Cx p s m #[Value.ref b] meth c cL_law 4 ret RL meth.name g) (hF : SEg z A s s.heap) (hX : va_X b L xs s s.heap) (hL : L ≤ 3072) (hbl : b < s.heap.size) (hbA : ¬ A b) (hA : ∀ q : Nat, s.heap.size ≤ q → A q) (hi : i + 6 ≤ L) (hCI : CI g k_h0 k_rd k_tk k_tp k_sp k_dr k_dr_winds k_dr_lees k_dr_gustChances k_dr_gusts k_dr_cloths k_dr_trues k_dr_strengths k_dr_reefs k_dr_cornerNames k_dr_guildNames k_dr_pu k_dr_pu_op k_dr_pu_nu k_dr_pu_st k_dr_ho k_dr_ho_op k_dr_ho_nu k_dr_ho_st k_to k_to_winds k_to_lees k_to_gustChances k_to_gusts k_to_cloths k_to_trues k_to_strengths k_to_reefs k_to_pu k_to_pu_op k_to_pu_nu k_to_pu_st k_to_ho k_to_ho_op k_to_ho_nu k_to_ho_st k_no k_no_or k_no_re k_no_ch k_no_ho k_no_gu k_co k_va k_ou k_tr k_tr_or k_tr_re k_tr_ch k_tr_ho k_tr_gu k_ra k_or_ k_su k_ah k_td k_be k_hi k_sa k_ly k_nu k_si k_s_corners k_s_guilds k_s_wasUp k_s_toldAt k_s_untoldAt k_s_untold k_s_upBehind k_s_fitting k_s_groups k_t2 k_t2_or k_t2_re k_t2_ch k_t2_ho k_t2_gu k_bx k_bf t WC) (hRI : RI g r_h0 r_m_tape r_m_text r_m_corners r_m_guilds r_m_gusts r_m_units r_m_draw r_m_told r_m_wind r_m_lee r_m_gust r_m_blow r_m_cloth r_m_truth r_m_strong r_m_reefTold r_m_ruleFrom r_m_ruleTo r_m_cName r_m_gName r_m_code r_m_codeNumber r_m_eWhat r_m_eSign r_m_pile r_m_all r_m_was r_m_kept r_m_laidRow r_m_fell r_m_good r_m_least r_m_with r_m_upBy r_m_sCorners r_m_sGuild r_m_sIs r_m_sTold r_m_sUntold r_m_parts r_m_boxAll r_m_isBoxed t WR) (hP : va_P g.1 vwCl (WC ++ WR) H) (hD : va_D A (WC ++ WR)) (hS : va_S A s.heap H locs) (hl : lv_has ls 4 [(3, .int (nI i)), (2, .ref r_h0), (1, .ref k_h0), (0, .ref b)])
    (kk : ∀ (H : Heap) (locs : List Loc) (ls : Array Slot) (t : Int32) (WC WR : va_W), CI g k_h0 k_rd k_tk k_tp k_sp k_dr k_dr_winds k_dr_lees k_dr_gustChances k_dr_gusts k_dr_cloths k_dr_trues k_dr_strengths k_dr_reefs k_dr_cornerNames k_dr_guildNames k_dr_pu k_dr_pu_op k_dr_pu_nu k_dr_pu_st k_dr_ho k_dr_ho_op k_dr_ho_nu k_dr_ho_st k_to k_to_winds k_to_lees k_to_gustChances k_to_gusts k_to_cloths k_to_trues k_to_strengths k_to_reefs k_to_pu k_to_pu_op k_to_pu_nu k_to_pu_st k_to_ho k_to_ho_op k_to_ho_nu k_to_ho_st k_no k_no_or k_no_re k_no_ch k_no_ho k_no_gu k_co k_va k_ou k_tr k_tr_or k_tr_re k_tr_ch k_tr_ho k_tr_gu k_ra k_or_ k_su k_ah k_td k_be k_hi k_sa k_ly k_nu k_si k_s_corners k_s_guilds k_s_wasUp k_s_toldAt k_s_untoldAt k_s_untold k_s_upBehind k_s_fitting k_s_groups k_t2 k_t2_or k_t2_re k_t2_ch k_t2_ho k_t2_gu k_bx k_bf t WC → RI g r_h0 r_m_tape r_m_text r_m_corners r_m_guilds r_m_gusts r_m_units r_m_draw r_m_told r_m_wind r_m_lee r_m_gust r_m_blow r_m_cloth r_m_truth r_m_strong r_m_reefTold r_m_ruleFrom r_m_ruleTo r_m_cName r_m_gName r_m_code r_m_codeNumber r_m_eWhat r_m_eSign r_m_pile r_m_all r_m_was r_m_kept r_m_laidRow r_m_fell r_m_good r_m_least r_m_with r_m_upBy r_m_sCorners r_m_sGuild r_m_sIs r_m_sTold r_m_sUntold r_m_parts r_m_boxAll r_m_isBoxed t WR → va_P g.1 vwCl (WC ++ WR) H → va_D A (WC ++ WR) → va_S A s.heap H locs → lv_has ls 4 [(3, .int (nI i)), (2, .ref r_h0), (1, .ref k_h0), (0, .ref b)] → W p l e room_1 s m #[Value.ref b] below meth c H locs nc ns Q (F0 m 1278 ls [])) : W p l e room_1 s m #[Value.ref b] below meth c H locs nc ns Q (F0 m 759 ls []) := by
  obtain ⟨hx, hb, hml, hr, hlocks, hown, hts, hE, hnm⟩ := id hcx
  refine lv_aload_n hx hb dL_law_759 rfl (lv_at hl 2 rfl) ?_
  refine lk_street hnc hns hcx hA hl.1 hCI hP hD hS (fun r1 WC H locs hCI hP hD hS => ?_)
  refine lv_pop hx hb dL_law_763 rfl ?_
  refine lv_aload_n hx hb dL_law_764 rfl (lv_at hl 1 rfl) ?_
  have hP := P_perm hP List.perm_append_comm
  have hD := D_perm hD List.perm_append_comm
  refine lr_street hnc hns hcx hA hl.1 hRI hP hD hS (fun r2 WR H locs hRI hP hD hS => ?_)
  have hP := P_perm hP List.perm_append_comm
  have hD := D_perm hD List.perm_append_comm
  refine lv_pop hx hb dL_law_768 rfl ?_
  refine lv_goto (tgt := 1278) hx hb dL_law_769 (by decide) ?_
  exact kk H locs ls t WC WR hCI hRI hP hD hS hl

set_option maxHeartbeats 4000000 in
set_option maxRecDepth 100000 in
theorem lc_22 {p : Program} {l : Launch} {e : Env} {s : State} {m : MethodId} {below : List Frame} {meth : Method} {c : Code} {g : Gx} {b L : Nat} {xs : Nat → Int32} {A : Nat → Prop} {nc ns : Nat} {z : Sg} {Q : State → Prop} {k_h0 k_rd k_tk k_tp k_sp k_dr k_dr_winds k_dr_lees k_dr_gustChances k_dr_gusts k_dr_cloths k_dr_trues k_dr_strengths k_dr_reefs k_dr_cornerNames k_dr_guildNames k_dr_pu k_dr_pu_op k_dr_pu_nu k_dr_pu_st k_dr_ho k_dr_ho_op k_dr_ho_nu k_dr_ho_st k_to k_to_winds k_to_lees k_to_gustChances k_to_gusts k_to_cloths k_to_trues k_to_strengths k_to_reefs k_to_pu k_to_pu_op k_to_pu_nu k_to_pu_st k_to_ho k_to_ho_op k_to_ho_nu k_to_ho_st k_no k_no_or k_no_re k_no_ch k_no_ho k_no_gu k_co k_va k_ou k_tr k_tr_or k_tr_re k_tr_ch k_tr_ho k_tr_gu k_ra k_or_ k_su k_ah k_td k_be k_hi k_sa k_ly k_nu k_si k_s_corners k_s_guilds k_s_wasUp k_s_toldAt k_s_untoldAt k_s_untold k_s_upBehind k_s_fitting k_s_groups k_t2 k_t2_or k_t2_re k_t2_ch k_t2_ho k_t2_gu k_bx k_bf r_h0 r_m_tape r_m_text r_m_corners r_m_guilds r_m_gusts r_m_units r_m_draw r_m_told r_m_wind r_m_lee r_m_gust r_m_blow r_m_cloth r_m_truth r_m_strong r_m_reefTold r_m_ruleFrom r_m_ruleTo r_m_cName r_m_gName r_m_code r_m_codeNumber r_m_eWhat r_m_eSign r_m_pile r_m_all r_m_was r_m_kept r_m_laidRow r_m_fell r_m_good r_m_least r_m_with r_m_upBy r_m_sCorners r_m_sGuild r_m_sIs r_m_sTold r_m_sUntold r_m_parts r_m_boxAll r_m_isBoxed : Nat} {i : Nat} {H : Heap} {locs : List Loc} {ls : Array Slot} {t : Int32} {WC WR : va_W} (hnc : nc ≤ 10000) (hns : ns ≤ 1000000) (hcx : Cx p s m #[Value.ref b] meth c cL_law 4 ret RL meth.name g) (hF : SEg z A s s.heap) (hX : va_X b L xs s s.heap) (hL : L ≤ 3072) (hbl : b < s.heap.size) (hbA : ¬ A b) (hA : ∀ q : Nat, s.heap.size ≤ q → A q) (hi : i + 6 ≤ L) (hCI : CI g k_h0 k_rd k_tk k_tp k_sp k_dr k_dr_winds k_dr_lees k_dr_gustChances k_dr_gusts k_dr_cloths k_dr_trues k_dr_strengths k_dr_reefs k_dr_cornerNames k_dr_guildNames k_dr_pu k_dr_pu_op k_dr_pu_nu k_dr_pu_st k_dr_ho k_dr_ho_op k_dr_ho_nu k_dr_ho_st k_to k_to_winds k_to_lees k_to_gustChances k_to_gusts k_to_cloths k_to_trues k_to_strengths k_to_reefs k_to_pu k_to_pu_op k_to_pu_nu k_to_pu_st k_to_ho k_to_ho_op k_to_ho_nu k_to_ho_st k_no k_no_or k_no_re k_no_ch k_no_ho k_no_gu k_co k_va k_ou k_tr k_tr_or k_tr_re k_tr_ch k_tr_ho k_tr_gu k_ra k_or_ k_su k_ah k_td k_be k_hi k_sa k_ly k_nu k_si k_s_corners k_s_guilds k_s_wasUp k_s_toldAt k_s_untoldAt k_s_untold k_s_upBehind k_s_fitting k_s_groups k_t2 k_t2_or k_t2_re k_t2_ch k_t2_ho k_t2_gu k_bx k_bf t WC) (hRI : RI g r_h0 r_m_tape r_m_text r_m_corners r_m_guilds r_m_gusts r_m_units r_m_draw r_m_told r_m_wind r_m_lee r_m_gust r_m_blow r_m_cloth r_m_truth r_m_strong r_m_reefTold r_m_ruleFrom r_m_ruleTo r_m_cName r_m_gName r_m_code r_m_codeNumber r_m_eWhat r_m_eSign r_m_pile r_m_all r_m_was r_m_kept r_m_laidRow r_m_fell r_m_good r_m_least r_m_with r_m_upBy r_m_sCorners r_m_sGuild r_m_sIs r_m_sTold r_m_sUntold r_m_parts r_m_boxAll r_m_isBoxed t WR) (hP : va_P g.1 vwCl (WC ++ WR) H) (hD : va_D A (WC ++ WR)) (hS : va_S A s.heap H locs) (hl : lv_has ls 4 [(3, .int (nI i)), (2, .ref r_h0), (1, .ref k_h0), (0, .ref b)])
    (kk : ∀ (H : Heap) (locs : List Loc) (ls : Array Slot) (t : Int32) (WC WR : va_W), CI g k_h0 k_rd k_tk k_tp k_sp k_dr k_dr_winds k_dr_lees k_dr_gustChances k_dr_gusts k_dr_cloths k_dr_trues k_dr_strengths k_dr_reefs k_dr_cornerNames k_dr_guildNames k_dr_pu k_dr_pu_op k_dr_pu_nu k_dr_pu_st k_dr_ho k_dr_ho_op k_dr_ho_nu k_dr_ho_st k_to k_to_winds k_to_lees k_to_gustChances k_to_gusts k_to_cloths k_to_trues k_to_strengths k_to_reefs k_to_pu k_to_pu_op k_to_pu_nu k_to_pu_st k_to_ho k_to_ho_op k_to_ho_nu k_to_ho_st k_no k_no_or k_no_re k_no_ch k_no_ho k_no_gu k_co k_va k_ou k_tr k_tr_or k_tr_re k_tr_ch k_tr_ho k_tr_gu k_ra k_or_ k_su k_ah k_td k_be k_hi k_sa k_ly k_nu k_si k_s_corners k_s_guilds k_s_wasUp k_s_toldAt k_s_untoldAt k_s_untold k_s_upBehind k_s_fitting k_s_groups k_t2 k_t2_or k_t2_re k_t2_ch k_t2_ho k_t2_gu k_bx k_bf t WC → RI g r_h0 r_m_tape r_m_text r_m_corners r_m_guilds r_m_gusts r_m_units r_m_draw r_m_told r_m_wind r_m_lee r_m_gust r_m_blow r_m_cloth r_m_truth r_m_strong r_m_reefTold r_m_ruleFrom r_m_ruleTo r_m_cName r_m_gName r_m_code r_m_codeNumber r_m_eWhat r_m_eSign r_m_pile r_m_all r_m_was r_m_kept r_m_laidRow r_m_fell r_m_good r_m_least r_m_with r_m_upBy r_m_sCorners r_m_sGuild r_m_sIs r_m_sTold r_m_sUntold r_m_parts r_m_boxAll r_m_isBoxed t WR → va_P g.1 vwCl (WC ++ WR) H → va_D A (WC ++ WR) → va_S A s.heap H locs → lv_has ls 4 [(3, .int (nI i)), (2, .ref r_h0), (1, .ref k_h0), (0, .ref b)] → W p l e room_1 s m #[Value.ref b] below meth c H locs nc ns Q (F0 m 1278 ls [])) : W p l e room_1 s m #[Value.ref b] below meth c H locs nc ns Q (F0 m 772 ls []) := by
  obtain ⟨hx, hb, hml, hr, hlocks, hown, hts, hE, hnm⟩ := id hcx
  refine lv_aload_n hx hb dL_law_772 rfl (lv_at hl 2 rfl) ?_
  refine lv_aload_n hx hb dL_law_773 rfl (lv_at hl 3 rfl) ?_
  refine lv_iload_n hx hb dL_law_774 rfl (lv_at hl 0 rfl) ?_
  refine lv_iconst (v := 1) hx hb dL_law_775 (by decide) ?_
  refine lv_iadd hx hb dL_law_776 ?_
  refine lv_tope (y := (nI (i + 1))) (nI_add (i) (1)) ?_
  refine sc_ld hx hb hX hbl hbA hS (i + 1) rfl (by omega) (by omega) dL_law_777 ?_
  refine lv_aload_n hx hb dL_law_778 rfl (lv_at hl 3 rfl) ?_
  refine lv_iload_n hx hb dL_law_779 rfl (lv_at hl 0 rfl) ?_
  refine lv_iconst (v := 2) hx hb dL_law_780 (by decide) ?_
  refine lv_iadd hx hb dL_law_781 ?_
  refine lv_tope (y := (nI (i + 2))) (nI_add (i) (2)) ?_
  refine sc_ld hx hb hX hbl hbA hS (i + 2) rfl (by omega) (by omega) dL_law_782 ?_
  refine lk_host ((xs (i + 1))) ((xs (i + 2))) hnc hns hcx hA hl.1 hCI hP hD hS (fun r1 WC H locs hCI hP hD hS => ?_)
  refine lv_pop hx hb dL_law_786 rfl ?_
  refine lv_aload_n hx hb dL_law_787 rfl (lv_at hl 1 rfl) ?_
  refine lv_aload_n hx hb dL_law_788 rfl (lv_at hl 3 rfl) ?_
  refine lv_iload_n hx hb dL_law_789 rfl (lv_at hl 0 rfl) ?_
  refine lv_iconst (v := 1) hx hb dL_law_790 (by decide) ?_
  refine lv_iadd hx hb dL_law_791 ?_
  refine lv_tope (y := (nI (i + 1))) (nI_add (i) (1)) ?_
  refine sc_ld hx hb hX hbl hbA hS (i + 1) rfl (by omega) (by omega) dL_law_792 ?_
  refine lv_aload_n hx hb dL_law_793 rfl (lv_at hl 3 rfl) ?_
  refine lv_iload_n hx hb dL_law_794 rfl (lv_at hl 0 rfl) ?_
  refine lv_iconst (v := 2) hx hb dL_law_795 (by decide) ?_
  refine lv_iadd hx hb dL_law_796 ?_
  refine lv_tope (y := (nI (i + 2))) (nI_add (i) (2)) ?_
  refine sc_ld hx hb hX hbl hbA hS (i + 2) rfl (by omega) (by omega) dL_law_797 ?_
  have hP := P_perm hP List.perm_append_comm
  have hD := D_perm hD List.perm_append_comm
  refine lr_host ((xs (i + 1))) ((xs (i + 2))) hnc hns hcx hA hl.1 hRI hP hD hS (fun r2 WR H locs hRI hP hD hS => ?_)
  have hP := P_perm hP List.perm_append_comm
  have hD := D_perm hD List.perm_append_comm
  refine lv_pop hx hb dL_law_801 rfl ?_
  refine lv_goto (tgt := 1278) hx hb dL_law_802 (by decide) ?_
  exact kk H locs ls t WC WR hCI hRI hP hD hS hl

set_option maxHeartbeats 4000000 in
set_option maxRecDepth 100000 in
theorem lc_23 {p : Program} {l : Launch} {e : Env} {s : State} {m : MethodId} {below : List Frame} {meth : Method} {c : Code} {g : Gx} {b L : Nat} {xs : Nat → Int32} {A : Nat → Prop} {nc ns : Nat} {z : Sg} {Q : State → Prop} {k_h0 k_rd k_tk k_tp k_sp k_dr k_dr_winds k_dr_lees k_dr_gustChances k_dr_gusts k_dr_cloths k_dr_trues k_dr_strengths k_dr_reefs k_dr_cornerNames k_dr_guildNames k_dr_pu k_dr_pu_op k_dr_pu_nu k_dr_pu_st k_dr_ho k_dr_ho_op k_dr_ho_nu k_dr_ho_st k_to k_to_winds k_to_lees k_to_gustChances k_to_gusts k_to_cloths k_to_trues k_to_strengths k_to_reefs k_to_pu k_to_pu_op k_to_pu_nu k_to_pu_st k_to_ho k_to_ho_op k_to_ho_nu k_to_ho_st k_no k_no_or k_no_re k_no_ch k_no_ho k_no_gu k_co k_va k_ou k_tr k_tr_or k_tr_re k_tr_ch k_tr_ho k_tr_gu k_ra k_or_ k_su k_ah k_td k_be k_hi k_sa k_ly k_nu k_si k_s_corners k_s_guilds k_s_wasUp k_s_toldAt k_s_untoldAt k_s_untold k_s_upBehind k_s_fitting k_s_groups k_t2 k_t2_or k_t2_re k_t2_ch k_t2_ho k_t2_gu k_bx k_bf r_h0 r_m_tape r_m_text r_m_corners r_m_guilds r_m_gusts r_m_units r_m_draw r_m_told r_m_wind r_m_lee r_m_gust r_m_blow r_m_cloth r_m_truth r_m_strong r_m_reefTold r_m_ruleFrom r_m_ruleTo r_m_cName r_m_gName r_m_code r_m_codeNumber r_m_eWhat r_m_eSign r_m_pile r_m_all r_m_was r_m_kept r_m_laidRow r_m_fell r_m_good r_m_least r_m_with r_m_upBy r_m_sCorners r_m_sGuild r_m_sIs r_m_sTold r_m_sUntold r_m_parts r_m_boxAll r_m_isBoxed : Nat} {i : Nat} {H : Heap} {locs : List Loc} {ls : Array Slot} {t : Int32} {WC WR : va_W} (hnc : nc ≤ 10000) (hns : ns ≤ 1000000) (hcx : Cx p s m #[Value.ref b] meth c cL_law 4 ret RL meth.name g) (hF : SEg z A s s.heap) (hX : va_X b L xs s s.heap) (hL : L ≤ 3072) (hbl : b < s.heap.size) (hbA : ¬ A b) (hA : ∀ q : Nat, s.heap.size ≤ q → A q) (hi : i + 6 ≤ L) (hCI : CI g k_h0 k_rd k_tk k_tp k_sp k_dr k_dr_winds k_dr_lees k_dr_gustChances k_dr_gusts k_dr_cloths k_dr_trues k_dr_strengths k_dr_reefs k_dr_cornerNames k_dr_guildNames k_dr_pu k_dr_pu_op k_dr_pu_nu k_dr_pu_st k_dr_ho k_dr_ho_op k_dr_ho_nu k_dr_ho_st k_to k_to_winds k_to_lees k_to_gustChances k_to_gusts k_to_cloths k_to_trues k_to_strengths k_to_reefs k_to_pu k_to_pu_op k_to_pu_nu k_to_pu_st k_to_ho k_to_ho_op k_to_ho_nu k_to_ho_st k_no k_no_or k_no_re k_no_ch k_no_ho k_no_gu k_co k_va k_ou k_tr k_tr_or k_tr_re k_tr_ch k_tr_ho k_tr_gu k_ra k_or_ k_su k_ah k_td k_be k_hi k_sa k_ly k_nu k_si k_s_corners k_s_guilds k_s_wasUp k_s_toldAt k_s_untoldAt k_s_untold k_s_upBehind k_s_fitting k_s_groups k_t2 k_t2_or k_t2_re k_t2_ch k_t2_ho k_t2_gu k_bx k_bf t WC) (hRI : RI g r_h0 r_m_tape r_m_text r_m_corners r_m_guilds r_m_gusts r_m_units r_m_draw r_m_told r_m_wind r_m_lee r_m_gust r_m_blow r_m_cloth r_m_truth r_m_strong r_m_reefTold r_m_ruleFrom r_m_ruleTo r_m_cName r_m_gName r_m_code r_m_codeNumber r_m_eWhat r_m_eSign r_m_pile r_m_all r_m_was r_m_kept r_m_laidRow r_m_fell r_m_good r_m_least r_m_with r_m_upBy r_m_sCorners r_m_sGuild r_m_sIs r_m_sTold r_m_sUntold r_m_parts r_m_boxAll r_m_isBoxed t WR) (hP : va_P g.1 vwCl (WC ++ WR) H) (hD : va_D A (WC ++ WR)) (hS : va_S A s.heap H locs) (hl : lv_has ls 4 [(3, .int (nI i)), (2, .ref r_h0), (1, .ref k_h0), (0, .ref b)])
    (kk : ∀ (H : Heap) (locs : List Loc) (ls : Array Slot) (t : Int32) (WC WR : va_W), CI g k_h0 k_rd k_tk k_tp k_sp k_dr k_dr_winds k_dr_lees k_dr_gustChances k_dr_gusts k_dr_cloths k_dr_trues k_dr_strengths k_dr_reefs k_dr_cornerNames k_dr_guildNames k_dr_pu k_dr_pu_op k_dr_pu_nu k_dr_pu_st k_dr_ho k_dr_ho_op k_dr_ho_nu k_dr_ho_st k_to k_to_winds k_to_lees k_to_gustChances k_to_gusts k_to_cloths k_to_trues k_to_strengths k_to_reefs k_to_pu k_to_pu_op k_to_pu_nu k_to_pu_st k_to_ho k_to_ho_op k_to_ho_nu k_to_ho_st k_no k_no_or k_no_re k_no_ch k_no_ho k_no_gu k_co k_va k_ou k_tr k_tr_or k_tr_re k_tr_ch k_tr_ho k_tr_gu k_ra k_or_ k_su k_ah k_td k_be k_hi k_sa k_ly k_nu k_si k_s_corners k_s_guilds k_s_wasUp k_s_toldAt k_s_untoldAt k_s_untold k_s_upBehind k_s_fitting k_s_groups k_t2 k_t2_or k_t2_re k_t2_ch k_t2_ho k_t2_gu k_bx k_bf t WC → RI g r_h0 r_m_tape r_m_text r_m_corners r_m_guilds r_m_gusts r_m_units r_m_draw r_m_told r_m_wind r_m_lee r_m_gust r_m_blow r_m_cloth r_m_truth r_m_strong r_m_reefTold r_m_ruleFrom r_m_ruleTo r_m_cName r_m_gName r_m_code r_m_codeNumber r_m_eWhat r_m_eSign r_m_pile r_m_all r_m_was r_m_kept r_m_laidRow r_m_fell r_m_good r_m_least r_m_with r_m_upBy r_m_sCorners r_m_sGuild r_m_sIs r_m_sTold r_m_sUntold r_m_parts r_m_boxAll r_m_isBoxed t WR → va_P g.1 vwCl (WC ++ WR) H → va_D A (WC ++ WR) → va_S A s.heap H locs → lv_has ls 4 [(3, .int (nI i)), (2, .ref r_h0), (1, .ref k_h0), (0, .ref b)] → W p l e room_1 s m #[Value.ref b] below meth c H locs nc ns Q (F0 m 1278 ls [])) : W p l e room_1 s m #[Value.ref b] below meth c H locs nc ns Q (F0 m 805 ls []) := by
  obtain ⟨hx, hb, hml, hr, hlocks, hown, hts, hE, hnm⟩ := id hcx
  refine lv_aload_n hx hb dL_law_805 rfl (lv_at hl 2 rfl) ?_
  refine lv_aload_n hx hb dL_law_806 rfl (lv_at hl 3 rfl) ?_
  refine lv_iload_n hx hb dL_law_807 rfl (lv_at hl 0 rfl) ?_
  refine lv_iconst (v := 1) hx hb dL_law_808 (by decide) ?_
  refine lv_iadd hx hb dL_law_809 ?_
  refine lv_tope (y := (nI (i + 1))) (nI_add (i) (1)) ?_
  refine sc_ld hx hb hX hbl hbA hS (i + 1) rfl (by omega) (by omega) dL_law_810 ?_
  refine lv_aload_n hx hb dL_law_811 rfl (lv_at hl 3 rfl) ?_
  refine lv_iload_n hx hb dL_law_812 rfl (lv_at hl 0 rfl) ?_
  refine lv_iconst (v := 2) hx hb dL_law_813 (by decide) ?_
  refine lv_iadd hx hb dL_law_814 ?_
  refine lv_tope (y := (nI (i + 2))) (nI_add (i) (2)) ?_
  refine sc_ld hx hb hX hbl hbA hS (i + 2) rfl (by omega) (by omega) dL_law_815 ?_
  refine lk_rivals ((xs (i + 1))) ((xs (i + 2))) hnc hns hcx hA hl.1 hCI hP hD hS (fun r1 WC H locs hCI hP hD hS => ?_)
  refine lv_pop hx hb dL_law_819 rfl ?_
  refine lv_aload_n hx hb dL_law_820 rfl (lv_at hl 1 rfl) ?_
  refine lv_aload_n hx hb dL_law_821 rfl (lv_at hl 3 rfl) ?_
  refine lv_iload_n hx hb dL_law_822 rfl (lv_at hl 0 rfl) ?_
  refine lv_iconst (v := 1) hx hb dL_law_823 (by decide) ?_
  refine lv_iadd hx hb dL_law_824 ?_
  refine lv_tope (y := (nI (i + 1))) (nI_add (i) (1)) ?_
  refine sc_ld hx hb hX hbl hbA hS (i + 1) rfl (by omega) (by omega) dL_law_825 ?_
  refine lv_aload_n hx hb dL_law_826 rfl (lv_at hl 3 rfl) ?_
  refine lv_iload_n hx hb dL_law_827 rfl (lv_at hl 0 rfl) ?_
  refine lv_iconst (v := 2) hx hb dL_law_828 (by decide) ?_
  refine lv_iadd hx hb dL_law_829 ?_
  refine lv_tope (y := (nI (i + 2))) (nI_add (i) (2)) ?_
  refine sc_ld hx hb hX hbl hbA hS (i + 2) rfl (by omega) (by omega) dL_law_830 ?_
  have hP := P_perm hP List.perm_append_comm
  have hD := D_perm hD List.perm_append_comm
  refine lr_rivals ((xs (i + 1))) ((xs (i + 2))) hnc hns hcx hA hl.1 hRI hP hD hS (fun r2 WR H locs hRI hP hD hS => ?_)
  have hP := P_perm hP List.perm_append_comm
  have hD := D_perm hD List.perm_append_comm
  refine lv_pop hx hb dL_law_834 rfl ?_
  refine lv_goto (tgt := 1278) hx hb dL_law_835 (by decide) ?_
  exact kk H locs ls t WC WR hCI hRI hP hD hS hl

set_option maxHeartbeats 4000000 in
set_option maxRecDepth 100000 in
theorem lc_24 {p : Program} {l : Launch} {e : Env} {s : State} {m : MethodId} {below : List Frame} {meth : Method} {c : Code} {g : Gx} {b L : Nat} {xs : Nat → Int32} {A : Nat → Prop} {nc ns : Nat} {z : Sg} {Q : State → Prop} {k_h0 k_rd k_tk k_tp k_sp k_dr k_dr_winds k_dr_lees k_dr_gustChances k_dr_gusts k_dr_cloths k_dr_trues k_dr_strengths k_dr_reefs k_dr_cornerNames k_dr_guildNames k_dr_pu k_dr_pu_op k_dr_pu_nu k_dr_pu_st k_dr_ho k_dr_ho_op k_dr_ho_nu k_dr_ho_st k_to k_to_winds k_to_lees k_to_gustChances k_to_gusts k_to_cloths k_to_trues k_to_strengths k_to_reefs k_to_pu k_to_pu_op k_to_pu_nu k_to_pu_st k_to_ho k_to_ho_op k_to_ho_nu k_to_ho_st k_no k_no_or k_no_re k_no_ch k_no_ho k_no_gu k_co k_va k_ou k_tr k_tr_or k_tr_re k_tr_ch k_tr_ho k_tr_gu k_ra k_or_ k_su k_ah k_td k_be k_hi k_sa k_ly k_nu k_si k_s_corners k_s_guilds k_s_wasUp k_s_toldAt k_s_untoldAt k_s_untold k_s_upBehind k_s_fitting k_s_groups k_t2 k_t2_or k_t2_re k_t2_ch k_t2_ho k_t2_gu k_bx k_bf r_h0 r_m_tape r_m_text r_m_corners r_m_guilds r_m_gusts r_m_units r_m_draw r_m_told r_m_wind r_m_lee r_m_gust r_m_blow r_m_cloth r_m_truth r_m_strong r_m_reefTold r_m_ruleFrom r_m_ruleTo r_m_cName r_m_gName r_m_code r_m_codeNumber r_m_eWhat r_m_eSign r_m_pile r_m_all r_m_was r_m_kept r_m_laidRow r_m_fell r_m_good r_m_least r_m_with r_m_upBy r_m_sCorners r_m_sGuild r_m_sIs r_m_sTold r_m_sUntold r_m_parts r_m_boxAll r_m_isBoxed : Nat} {i : Nat} {H : Heap} {locs : List Loc} {ls : Array Slot} {t : Int32} {WC WR : va_W} (hnc : nc ≤ 10000) (hns : ns ≤ 1000000) (hcx : Cx p s m #[Value.ref b] meth c cL_law 4 ret RL meth.name g) (hF : SEg z A s s.heap) (hX : va_X b L xs s s.heap) (hL : L ≤ 3072) (hbl : b < s.heap.size) (hbA : ¬ A b) (hA : ∀ q : Nat, s.heap.size ≤ q → A q) (hi : i + 6 ≤ L) (hCI : CI g k_h0 k_rd k_tk k_tp k_sp k_dr k_dr_winds k_dr_lees k_dr_gustChances k_dr_gusts k_dr_cloths k_dr_trues k_dr_strengths k_dr_reefs k_dr_cornerNames k_dr_guildNames k_dr_pu k_dr_pu_op k_dr_pu_nu k_dr_pu_st k_dr_ho k_dr_ho_op k_dr_ho_nu k_dr_ho_st k_to k_to_winds k_to_lees k_to_gustChances k_to_gusts k_to_cloths k_to_trues k_to_strengths k_to_reefs k_to_pu k_to_pu_op k_to_pu_nu k_to_pu_st k_to_ho k_to_ho_op k_to_ho_nu k_to_ho_st k_no k_no_or k_no_re k_no_ch k_no_ho k_no_gu k_co k_va k_ou k_tr k_tr_or k_tr_re k_tr_ch k_tr_ho k_tr_gu k_ra k_or_ k_su k_ah k_td k_be k_hi k_sa k_ly k_nu k_si k_s_corners k_s_guilds k_s_wasUp k_s_toldAt k_s_untoldAt k_s_untold k_s_upBehind k_s_fitting k_s_groups k_t2 k_t2_or k_t2_re k_t2_ch k_t2_ho k_t2_gu k_bx k_bf t WC) (hRI : RI g r_h0 r_m_tape r_m_text r_m_corners r_m_guilds r_m_gusts r_m_units r_m_draw r_m_told r_m_wind r_m_lee r_m_gust r_m_blow r_m_cloth r_m_truth r_m_strong r_m_reefTold r_m_ruleFrom r_m_ruleTo r_m_cName r_m_gName r_m_code r_m_codeNumber r_m_eWhat r_m_eSign r_m_pile r_m_all r_m_was r_m_kept r_m_laidRow r_m_fell r_m_good r_m_least r_m_with r_m_upBy r_m_sCorners r_m_sGuild r_m_sIs r_m_sTold r_m_sUntold r_m_parts r_m_boxAll r_m_isBoxed t WR) (hP : va_P g.1 vwCl (WC ++ WR) H) (hD : va_D A (WC ++ WR)) (hS : va_S A s.heap H locs) (hl : lv_has ls 4 [(3, .int (nI i)), (2, .ref r_h0), (1, .ref k_h0), (0, .ref b)])
    (kk : ∀ (H : Heap) (locs : List Loc) (ls : Array Slot) (t : Int32) (WC WR : va_W), CI g k_h0 k_rd k_tk k_tp k_sp k_dr k_dr_winds k_dr_lees k_dr_gustChances k_dr_gusts k_dr_cloths k_dr_trues k_dr_strengths k_dr_reefs k_dr_cornerNames k_dr_guildNames k_dr_pu k_dr_pu_op k_dr_pu_nu k_dr_pu_st k_dr_ho k_dr_ho_op k_dr_ho_nu k_dr_ho_st k_to k_to_winds k_to_lees k_to_gustChances k_to_gusts k_to_cloths k_to_trues k_to_strengths k_to_reefs k_to_pu k_to_pu_op k_to_pu_nu k_to_pu_st k_to_ho k_to_ho_op k_to_ho_nu k_to_ho_st k_no k_no_or k_no_re k_no_ch k_no_ho k_no_gu k_co k_va k_ou k_tr k_tr_or k_tr_re k_tr_ch k_tr_ho k_tr_gu k_ra k_or_ k_su k_ah k_td k_be k_hi k_sa k_ly k_nu k_si k_s_corners k_s_guilds k_s_wasUp k_s_toldAt k_s_untoldAt k_s_untold k_s_upBehind k_s_fitting k_s_groups k_t2 k_t2_or k_t2_re k_t2_ch k_t2_ho k_t2_gu k_bx k_bf t WC → RI g r_h0 r_m_tape r_m_text r_m_corners r_m_guilds r_m_gusts r_m_units r_m_draw r_m_told r_m_wind r_m_lee r_m_gust r_m_blow r_m_cloth r_m_truth r_m_strong r_m_reefTold r_m_ruleFrom r_m_ruleTo r_m_cName r_m_gName r_m_code r_m_codeNumber r_m_eWhat r_m_eSign r_m_pile r_m_all r_m_was r_m_kept r_m_laidRow r_m_fell r_m_good r_m_least r_m_with r_m_upBy r_m_sCorners r_m_sGuild r_m_sIs r_m_sTold r_m_sUntold r_m_parts r_m_boxAll r_m_isBoxed t WR → va_P g.1 vwCl (WC ++ WR) H → va_D A (WC ++ WR) → va_S A s.heap H locs → lv_has ls 4 [(3, .int (nI i)), (2, .ref r_h0), (1, .ref k_h0), (0, .ref b)] → W p l e room_1 s m #[Value.ref b] below meth c H locs nc ns Q (F0 m 1278 ls [])) : W p l e room_1 s m #[Value.ref b] below meth c H locs nc ns Q (F0 m 838 ls []) := by
  obtain ⟨hx, hb, hml, hr, hlocks, hown, hts, hE, hnm⟩ := id hcx
  refine lv_aload_n hx hb dL_law_838 rfl (lv_at hl 2 rfl) ?_
  refine lk_pairs hnc hns hcx hA hl.1 hCI hP hD hS (fun r1 WC H locs hCI hP hD hS => ?_)
  refine lv_pop hx hb dL_law_842 rfl ?_
  refine lv_aload_n hx hb dL_law_843 rfl (lv_at hl 1 rfl) ?_
  have hP := P_perm hP List.perm_append_comm
  have hD := D_perm hD List.perm_append_comm
  refine lr_pairs hnc hns hcx hA hl.1 hRI hP hD hS (fun r2 WR H locs hRI hP hD hS => ?_)
  have hP := P_perm hP List.perm_append_comm
  have hD := D_perm hD List.perm_append_comm
  refine lv_pop hx hb dL_law_847 rfl ?_
  refine lv_goto (tgt := 1278) hx hb dL_law_848 (by decide) ?_
  exact kk H locs ls t WC WR hCI hRI hP hD hS hl

set_option maxHeartbeats 4000000 in
set_option maxRecDepth 100000 in
theorem lc_25 {p : Program} {l : Launch} {e : Env} {s : State} {m : MethodId} {below : List Frame} {meth : Method} {c : Code} {g : Gx} {b L : Nat} {xs : Nat → Int32} {A : Nat → Prop} {nc ns : Nat} {z : Sg} {Q : State → Prop} {k_h0 k_rd k_tk k_tp k_sp k_dr k_dr_winds k_dr_lees k_dr_gustChances k_dr_gusts k_dr_cloths k_dr_trues k_dr_strengths k_dr_reefs k_dr_cornerNames k_dr_guildNames k_dr_pu k_dr_pu_op k_dr_pu_nu k_dr_pu_st k_dr_ho k_dr_ho_op k_dr_ho_nu k_dr_ho_st k_to k_to_winds k_to_lees k_to_gustChances k_to_gusts k_to_cloths k_to_trues k_to_strengths k_to_reefs k_to_pu k_to_pu_op k_to_pu_nu k_to_pu_st k_to_ho k_to_ho_op k_to_ho_nu k_to_ho_st k_no k_no_or k_no_re k_no_ch k_no_ho k_no_gu k_co k_va k_ou k_tr k_tr_or k_tr_re k_tr_ch k_tr_ho k_tr_gu k_ra k_or_ k_su k_ah k_td k_be k_hi k_sa k_ly k_nu k_si k_s_corners k_s_guilds k_s_wasUp k_s_toldAt k_s_untoldAt k_s_untold k_s_upBehind k_s_fitting k_s_groups k_t2 k_t2_or k_t2_re k_t2_ch k_t2_ho k_t2_gu k_bx k_bf r_h0 r_m_tape r_m_text r_m_corners r_m_guilds r_m_gusts r_m_units r_m_draw r_m_told r_m_wind r_m_lee r_m_gust r_m_blow r_m_cloth r_m_truth r_m_strong r_m_reefTold r_m_ruleFrom r_m_ruleTo r_m_cName r_m_gName r_m_code r_m_codeNumber r_m_eWhat r_m_eSign r_m_pile r_m_all r_m_was r_m_kept r_m_laidRow r_m_fell r_m_good r_m_least r_m_with r_m_upBy r_m_sCorners r_m_sGuild r_m_sIs r_m_sTold r_m_sUntold r_m_parts r_m_boxAll r_m_isBoxed : Nat} {i : Nat} {H : Heap} {locs : List Loc} {ls : Array Slot} {t : Int32} {WC WR : va_W} (hnc : nc ≤ 10000) (hns : ns ≤ 1000000) (hcx : Cx p s m #[Value.ref b] meth c cL_law 4 ret RL meth.name g) (hF : SEg z A s s.heap) (hX : va_X b L xs s s.heap) (hL : L ≤ 3072) (hbl : b < s.heap.size) (hbA : ¬ A b) (hA : ∀ q : Nat, s.heap.size ≤ q → A q) (hi : i + 6 ≤ L) (hCI : CI g k_h0 k_rd k_tk k_tp k_sp k_dr k_dr_winds k_dr_lees k_dr_gustChances k_dr_gusts k_dr_cloths k_dr_trues k_dr_strengths k_dr_reefs k_dr_cornerNames k_dr_guildNames k_dr_pu k_dr_pu_op k_dr_pu_nu k_dr_pu_st k_dr_ho k_dr_ho_op k_dr_ho_nu k_dr_ho_st k_to k_to_winds k_to_lees k_to_gustChances k_to_gusts k_to_cloths k_to_trues k_to_strengths k_to_reefs k_to_pu k_to_pu_op k_to_pu_nu k_to_pu_st k_to_ho k_to_ho_op k_to_ho_nu k_to_ho_st k_no k_no_or k_no_re k_no_ch k_no_ho k_no_gu k_co k_va k_ou k_tr k_tr_or k_tr_re k_tr_ch k_tr_ho k_tr_gu k_ra k_or_ k_su k_ah k_td k_be k_hi k_sa k_ly k_nu k_si k_s_corners k_s_guilds k_s_wasUp k_s_toldAt k_s_untoldAt k_s_untold k_s_upBehind k_s_fitting k_s_groups k_t2 k_t2_or k_t2_re k_t2_ch k_t2_ho k_t2_gu k_bx k_bf t WC) (hRI : RI g r_h0 r_m_tape r_m_text r_m_corners r_m_guilds r_m_gusts r_m_units r_m_draw r_m_told r_m_wind r_m_lee r_m_gust r_m_blow r_m_cloth r_m_truth r_m_strong r_m_reefTold r_m_ruleFrom r_m_ruleTo r_m_cName r_m_gName r_m_code r_m_codeNumber r_m_eWhat r_m_eSign r_m_pile r_m_all r_m_was r_m_kept r_m_laidRow r_m_fell r_m_good r_m_least r_m_with r_m_upBy r_m_sCorners r_m_sGuild r_m_sIs r_m_sTold r_m_sUntold r_m_parts r_m_boxAll r_m_isBoxed t WR) (hP : va_P g.1 vwCl (WC ++ WR) H) (hD : va_D A (WC ++ WR)) (hS : va_S A s.heap H locs) (hl : lv_has ls 4 [(3, .int (nI i)), (2, .ref r_h0), (1, .ref k_h0), (0, .ref b)])
    (kk : ∀ (H : Heap) (locs : List Loc) (ls : Array Slot) (t : Int32) (WC WR : va_W), CI g k_h0 k_rd k_tk k_tp k_sp k_dr k_dr_winds k_dr_lees k_dr_gustChances k_dr_gusts k_dr_cloths k_dr_trues k_dr_strengths k_dr_reefs k_dr_cornerNames k_dr_guildNames k_dr_pu k_dr_pu_op k_dr_pu_nu k_dr_pu_st k_dr_ho k_dr_ho_op k_dr_ho_nu k_dr_ho_st k_to k_to_winds k_to_lees k_to_gustChances k_to_gusts k_to_cloths k_to_trues k_to_strengths k_to_reefs k_to_pu k_to_pu_op k_to_pu_nu k_to_pu_st k_to_ho k_to_ho_op k_to_ho_nu k_to_ho_st k_no k_no_or k_no_re k_no_ch k_no_ho k_no_gu k_co k_va k_ou k_tr k_tr_or k_tr_re k_tr_ch k_tr_ho k_tr_gu k_ra k_or_ k_su k_ah k_td k_be k_hi k_sa k_ly k_nu k_si k_s_corners k_s_guilds k_s_wasUp k_s_toldAt k_s_untoldAt k_s_untold k_s_upBehind k_s_fitting k_s_groups k_t2 k_t2_or k_t2_re k_t2_ch k_t2_ho k_t2_gu k_bx k_bf t WC → RI g r_h0 r_m_tape r_m_text r_m_corners r_m_guilds r_m_gusts r_m_units r_m_draw r_m_told r_m_wind r_m_lee r_m_gust r_m_blow r_m_cloth r_m_truth r_m_strong r_m_reefTold r_m_ruleFrom r_m_ruleTo r_m_cName r_m_gName r_m_code r_m_codeNumber r_m_eWhat r_m_eSign r_m_pile r_m_all r_m_was r_m_kept r_m_laidRow r_m_fell r_m_good r_m_least r_m_with r_m_upBy r_m_sCorners r_m_sGuild r_m_sIs r_m_sTold r_m_sUntold r_m_parts r_m_boxAll r_m_isBoxed t WR → va_P g.1 vwCl (WC ++ WR) H → va_D A (WC ++ WR) → va_S A s.heap H locs → lv_has ls 4 [(3, .int (nI i)), (2, .ref r_h0), (1, .ref k_h0), (0, .ref b)] → W p l e room_1 s m #[Value.ref b] below meth c H locs nc ns Q (F0 m 1278 ls [])) : W p l e room_1 s m #[Value.ref b] below meth c H locs nc ns Q (F0 m 851 ls []) := by
  obtain ⟨hx, hb, hml, hr, hlocks, hown, hts, hE, hnm⟩ := id hcx
  refine lv_aload_n hx hb dL_law_851 rfl (lv_at hl 2 rfl) ?_
  refine lv_aload_n hx hb dL_law_852 rfl (lv_at hl 3 rfl) ?_
  refine lv_iload_n hx hb dL_law_853 rfl (lv_at hl 0 rfl) ?_
  refine lv_iconst (v := 1) hx hb dL_law_854 (by decide) ?_
  refine lv_iadd hx hb dL_law_855 ?_
  refine lv_tope (y := (nI (i + 1))) (nI_add (i) (1)) ?_
  refine sc_ld hx hb hX hbl hbA hS (i + 1) rfl (by omega) (by omega) dL_law_856 ?_
  refine lk_need ((xs (i + 1))) hnc hns hcx hA hl.1 hCI hP hD hS (fun r1 WC H locs hCI hP hD hS => ?_)
  refine lv_pop hx hb dL_law_860 rfl ?_
  refine lv_aload_n hx hb dL_law_861 rfl (lv_at hl 1 rfl) ?_
  refine lv_aload_n hx hb dL_law_862 rfl (lv_at hl 3 rfl) ?_
  refine lv_iload_n hx hb dL_law_863 rfl (lv_at hl 0 rfl) ?_
  refine lv_iconst (v := 1) hx hb dL_law_864 (by decide) ?_
  refine lv_iadd hx hb dL_law_865 ?_
  refine lv_tope (y := (nI (i + 1))) (nI_add (i) (1)) ?_
  refine sc_ld hx hb hX hbl hbA hS (i + 1) rfl (by omega) (by omega) dL_law_866 ?_
  have hP := P_perm hP List.perm_append_comm
  have hD := D_perm hD List.perm_append_comm
  refine lr_need ((xs (i + 1))) hnc hns hcx hA hl.1 hRI hP hD hS (fun r2 WR H locs hRI hP hD hS => ?_)
  have hP := P_perm hP List.perm_append_comm
  have hD := D_perm hD List.perm_append_comm
  refine lv_pop hx hb dL_law_870 rfl ?_
  refine lv_goto (tgt := 1278) hx hb dL_law_871 (by decide) ?_
  exact kk H locs ls t WC WR hCI hRI hP hD hS hl

set_option maxHeartbeats 4000000 in
set_option maxRecDepth 100000 in
theorem lc_26 {p : Program} {l : Launch} {e : Env} {s : State} {m : MethodId} {below : List Frame} {meth : Method} {c : Code} {g : Gx} {b L : Nat} {xs : Nat → Int32} {A : Nat → Prop} {nc ns : Nat} {z : Sg} {Q : State → Prop} {k_h0 k_rd k_tk k_tp k_sp k_dr k_dr_winds k_dr_lees k_dr_gustChances k_dr_gusts k_dr_cloths k_dr_trues k_dr_strengths k_dr_reefs k_dr_cornerNames k_dr_guildNames k_dr_pu k_dr_pu_op k_dr_pu_nu k_dr_pu_st k_dr_ho k_dr_ho_op k_dr_ho_nu k_dr_ho_st k_to k_to_winds k_to_lees k_to_gustChances k_to_gusts k_to_cloths k_to_trues k_to_strengths k_to_reefs k_to_pu k_to_pu_op k_to_pu_nu k_to_pu_st k_to_ho k_to_ho_op k_to_ho_nu k_to_ho_st k_no k_no_or k_no_re k_no_ch k_no_ho k_no_gu k_co k_va k_ou k_tr k_tr_or k_tr_re k_tr_ch k_tr_ho k_tr_gu k_ra k_or_ k_su k_ah k_td k_be k_hi k_sa k_ly k_nu k_si k_s_corners k_s_guilds k_s_wasUp k_s_toldAt k_s_untoldAt k_s_untold k_s_upBehind k_s_fitting k_s_groups k_t2 k_t2_or k_t2_re k_t2_ch k_t2_ho k_t2_gu k_bx k_bf r_h0 r_m_tape r_m_text r_m_corners r_m_guilds r_m_gusts r_m_units r_m_draw r_m_told r_m_wind r_m_lee r_m_gust r_m_blow r_m_cloth r_m_truth r_m_strong r_m_reefTold r_m_ruleFrom r_m_ruleTo r_m_cName r_m_gName r_m_code r_m_codeNumber r_m_eWhat r_m_eSign r_m_pile r_m_all r_m_was r_m_kept r_m_laidRow r_m_fell r_m_good r_m_least r_m_with r_m_upBy r_m_sCorners r_m_sGuild r_m_sIs r_m_sTold r_m_sUntold r_m_parts r_m_boxAll r_m_isBoxed : Nat} {i : Nat} {H : Heap} {locs : List Loc} {ls : Array Slot} {t : Int32} {WC WR : va_W} (hnc : nc ≤ 10000) (hns : ns ≤ 1000000) (hcx : Cx p s m #[Value.ref b] meth c cL_law 4 ret RL meth.name g) (hF : SEg z A s s.heap) (hX : va_X b L xs s s.heap) (hL : L ≤ 3072) (hbl : b < s.heap.size) (hbA : ¬ A b) (hA : ∀ q : Nat, s.heap.size ≤ q → A q) (hi : i + 6 ≤ L) (hCI : CI g k_h0 k_rd k_tk k_tp k_sp k_dr k_dr_winds k_dr_lees k_dr_gustChances k_dr_gusts k_dr_cloths k_dr_trues k_dr_strengths k_dr_reefs k_dr_cornerNames k_dr_guildNames k_dr_pu k_dr_pu_op k_dr_pu_nu k_dr_pu_st k_dr_ho k_dr_ho_op k_dr_ho_nu k_dr_ho_st k_to k_to_winds k_to_lees k_to_gustChances k_to_gusts k_to_cloths k_to_trues k_to_strengths k_to_reefs k_to_pu k_to_pu_op k_to_pu_nu k_to_pu_st k_to_ho k_to_ho_op k_to_ho_nu k_to_ho_st k_no k_no_or k_no_re k_no_ch k_no_ho k_no_gu k_co k_va k_ou k_tr k_tr_or k_tr_re k_tr_ch k_tr_ho k_tr_gu k_ra k_or_ k_su k_ah k_td k_be k_hi k_sa k_ly k_nu k_si k_s_corners k_s_guilds k_s_wasUp k_s_toldAt k_s_untoldAt k_s_untold k_s_upBehind k_s_fitting k_s_groups k_t2 k_t2_or k_t2_re k_t2_ch k_t2_ho k_t2_gu k_bx k_bf t WC) (hRI : RI g r_h0 r_m_tape r_m_text r_m_corners r_m_guilds r_m_gusts r_m_units r_m_draw r_m_told r_m_wind r_m_lee r_m_gust r_m_blow r_m_cloth r_m_truth r_m_strong r_m_reefTold r_m_ruleFrom r_m_ruleTo r_m_cName r_m_gName r_m_code r_m_codeNumber r_m_eWhat r_m_eSign r_m_pile r_m_all r_m_was r_m_kept r_m_laidRow r_m_fell r_m_good r_m_least r_m_with r_m_upBy r_m_sCorners r_m_sGuild r_m_sIs r_m_sTold r_m_sUntold r_m_parts r_m_boxAll r_m_isBoxed t WR) (hP : va_P g.1 vwCl (WC ++ WR) H) (hD : va_D A (WC ++ WR)) (hS : va_S A s.heap H locs) (hl : lv_has ls 4 [(3, .int (nI i)), (2, .ref r_h0), (1, .ref k_h0), (0, .ref b)])
    (kk : ∀ (H : Heap) (locs : List Loc) (ls : Array Slot) (t : Int32) (WC WR : va_W), CI g k_h0 k_rd k_tk k_tp k_sp k_dr k_dr_winds k_dr_lees k_dr_gustChances k_dr_gusts k_dr_cloths k_dr_trues k_dr_strengths k_dr_reefs k_dr_cornerNames k_dr_guildNames k_dr_pu k_dr_pu_op k_dr_pu_nu k_dr_pu_st k_dr_ho k_dr_ho_op k_dr_ho_nu k_dr_ho_st k_to k_to_winds k_to_lees k_to_gustChances k_to_gusts k_to_cloths k_to_trues k_to_strengths k_to_reefs k_to_pu k_to_pu_op k_to_pu_nu k_to_pu_st k_to_ho k_to_ho_op k_to_ho_nu k_to_ho_st k_no k_no_or k_no_re k_no_ch k_no_ho k_no_gu k_co k_va k_ou k_tr k_tr_or k_tr_re k_tr_ch k_tr_ho k_tr_gu k_ra k_or_ k_su k_ah k_td k_be k_hi k_sa k_ly k_nu k_si k_s_corners k_s_guilds k_s_wasUp k_s_toldAt k_s_untoldAt k_s_untold k_s_upBehind k_s_fitting k_s_groups k_t2 k_t2_or k_t2_re k_t2_ch k_t2_ho k_t2_gu k_bx k_bf t WC → RI g r_h0 r_m_tape r_m_text r_m_corners r_m_guilds r_m_gusts r_m_units r_m_draw r_m_told r_m_wind r_m_lee r_m_gust r_m_blow r_m_cloth r_m_truth r_m_strong r_m_reefTold r_m_ruleFrom r_m_ruleTo r_m_cName r_m_gName r_m_code r_m_codeNumber r_m_eWhat r_m_eSign r_m_pile r_m_all r_m_was r_m_kept r_m_laidRow r_m_fell r_m_good r_m_least r_m_with r_m_upBy r_m_sCorners r_m_sGuild r_m_sIs r_m_sTold r_m_sUntold r_m_parts r_m_boxAll r_m_isBoxed t WR → va_P g.1 vwCl (WC ++ WR) H → va_D A (WC ++ WR) → va_S A s.heap H locs → lv_has ls 4 [(3, .int (nI i)), (2, .ref r_h0), (1, .ref k_h0), (0, .ref b)] → W p l e room_1 s m #[Value.ref b] below meth c H locs nc ns Q (F0 m 1278 ls [])) : W p l e room_1 s m #[Value.ref b] below meth c H locs nc ns Q (F0 m 874 ls []) := by
  obtain ⟨hx, hb, hml, hr, hlocks, hown, hts, hE, hnm⟩ := id hcx
  refine lv_aload_n hx hb dL_law_874 rfl (lv_at hl 2 rfl) ?_
  refine lv_aload_n hx hb dL_law_875 rfl (lv_at hl 3 rfl) ?_
  refine lv_iload_n hx hb dL_law_876 rfl (lv_at hl 0 rfl) ?_
  refine lv_iconst (v := 1) hx hb dL_law_877 (by decide) ?_
  refine lv_iadd hx hb dL_law_878 ?_
  refine lv_tope (y := (nI (i + 1))) (nI_add (i) (1)) ?_
  refine sc_ld hx hb hX hbl hbA hS (i + 1) rfl (by omega) (by omega) dL_law_879 ?_
  refine lk_bears ((xs (i + 1))) hnc hns hcx hA hl.1 hCI hP hD hS (fun r1 WC H locs hCI hP hD hS => ?_)
  refine lv_pop hx hb dL_law_883 rfl ?_
  refine lv_aload_n hx hb dL_law_884 rfl (lv_at hl 1 rfl) ?_
  refine lv_aload_n hx hb dL_law_885 rfl (lv_at hl 3 rfl) ?_
  refine lv_iload_n hx hb dL_law_886 rfl (lv_at hl 0 rfl) ?_
  refine lv_iconst (v := 1) hx hb dL_law_887 (by decide) ?_
  refine lv_iadd hx hb dL_law_888 ?_
  refine lv_tope (y := (nI (i + 1))) (nI_add (i) (1)) ?_
  refine sc_ld hx hb hX hbl hbA hS (i + 1) rfl (by omega) (by omega) dL_law_889 ?_
  have hP := P_perm hP List.perm_append_comm
  have hD := D_perm hD List.perm_append_comm
  refine lr_bears ((xs (i + 1))) hnc hns hcx hA hl.1 hRI hP hD hS (fun r2 WR H locs hRI hP hD hS => ?_)
  have hP := P_perm hP List.perm_append_comm
  have hD := D_perm hD List.perm_append_comm
  refine lv_pop hx hb dL_law_893 rfl ?_
  refine lv_goto (tgt := 1278) hx hb dL_law_894 (by decide) ?_
  exact kk H locs ls t WC WR hCI hRI hP hD hS hl

set_option maxHeartbeats 4000000 in
set_option maxRecDepth 100000 in
theorem lc_27 {p : Program} {l : Launch} {e : Env} {s : State} {m : MethodId} {below : List Frame} {meth : Method} {c : Code} {g : Gx} {b L : Nat} {xs : Nat → Int32} {A : Nat → Prop} {nc ns : Nat} {z : Sg} {Q : State → Prop} {k_h0 k_rd k_tk k_tp k_sp k_dr k_dr_winds k_dr_lees k_dr_gustChances k_dr_gusts k_dr_cloths k_dr_trues k_dr_strengths k_dr_reefs k_dr_cornerNames k_dr_guildNames k_dr_pu k_dr_pu_op k_dr_pu_nu k_dr_pu_st k_dr_ho k_dr_ho_op k_dr_ho_nu k_dr_ho_st k_to k_to_winds k_to_lees k_to_gustChances k_to_gusts k_to_cloths k_to_trues k_to_strengths k_to_reefs k_to_pu k_to_pu_op k_to_pu_nu k_to_pu_st k_to_ho k_to_ho_op k_to_ho_nu k_to_ho_st k_no k_no_or k_no_re k_no_ch k_no_ho k_no_gu k_co k_va k_ou k_tr k_tr_or k_tr_re k_tr_ch k_tr_ho k_tr_gu k_ra k_or_ k_su k_ah k_td k_be k_hi k_sa k_ly k_nu k_si k_s_corners k_s_guilds k_s_wasUp k_s_toldAt k_s_untoldAt k_s_untold k_s_upBehind k_s_fitting k_s_groups k_t2 k_t2_or k_t2_re k_t2_ch k_t2_ho k_t2_gu k_bx k_bf r_h0 r_m_tape r_m_text r_m_corners r_m_guilds r_m_gusts r_m_units r_m_draw r_m_told r_m_wind r_m_lee r_m_gust r_m_blow r_m_cloth r_m_truth r_m_strong r_m_reefTold r_m_ruleFrom r_m_ruleTo r_m_cName r_m_gName r_m_code r_m_codeNumber r_m_eWhat r_m_eSign r_m_pile r_m_all r_m_was r_m_kept r_m_laidRow r_m_fell r_m_good r_m_least r_m_with r_m_upBy r_m_sCorners r_m_sGuild r_m_sIs r_m_sTold r_m_sUntold r_m_parts r_m_boxAll r_m_isBoxed : Nat} {i : Nat} {H : Heap} {locs : List Loc} {ls : Array Slot} {t : Int32} {WC WR : va_W} (hnc : nc ≤ 10000) (hns : ns ≤ 1000000) (hcx : Cx p s m #[Value.ref b] meth c cL_law 4 ret RL meth.name g) (hF : SEg z A s s.heap) (hX : va_X b L xs s s.heap) (hL : L ≤ 3072) (hbl : b < s.heap.size) (hbA : ¬ A b) (hA : ∀ q : Nat, s.heap.size ≤ q → A q) (hi : i + 6 ≤ L) (hCI : CI g k_h0 k_rd k_tk k_tp k_sp k_dr k_dr_winds k_dr_lees k_dr_gustChances k_dr_gusts k_dr_cloths k_dr_trues k_dr_strengths k_dr_reefs k_dr_cornerNames k_dr_guildNames k_dr_pu k_dr_pu_op k_dr_pu_nu k_dr_pu_st k_dr_ho k_dr_ho_op k_dr_ho_nu k_dr_ho_st k_to k_to_winds k_to_lees k_to_gustChances k_to_gusts k_to_cloths k_to_trues k_to_strengths k_to_reefs k_to_pu k_to_pu_op k_to_pu_nu k_to_pu_st k_to_ho k_to_ho_op k_to_ho_nu k_to_ho_st k_no k_no_or k_no_re k_no_ch k_no_ho k_no_gu k_co k_va k_ou k_tr k_tr_or k_tr_re k_tr_ch k_tr_ho k_tr_gu k_ra k_or_ k_su k_ah k_td k_be k_hi k_sa k_ly k_nu k_si k_s_corners k_s_guilds k_s_wasUp k_s_toldAt k_s_untoldAt k_s_untold k_s_upBehind k_s_fitting k_s_groups k_t2 k_t2_or k_t2_re k_t2_ch k_t2_ho k_t2_gu k_bx k_bf t WC) (hRI : RI g r_h0 r_m_tape r_m_text r_m_corners r_m_guilds r_m_gusts r_m_units r_m_draw r_m_told r_m_wind r_m_lee r_m_gust r_m_blow r_m_cloth r_m_truth r_m_strong r_m_reefTold r_m_ruleFrom r_m_ruleTo r_m_cName r_m_gName r_m_code r_m_codeNumber r_m_eWhat r_m_eSign r_m_pile r_m_all r_m_was r_m_kept r_m_laidRow r_m_fell r_m_good r_m_least r_m_with r_m_upBy r_m_sCorners r_m_sGuild r_m_sIs r_m_sTold r_m_sUntold r_m_parts r_m_boxAll r_m_isBoxed t WR) (hP : va_P g.1 vwCl (WC ++ WR) H) (hD : va_D A (WC ++ WR)) (hS : va_S A s.heap H locs) (hl : lv_has ls 4 [(3, .int (nI i)), (2, .ref r_h0), (1, .ref k_h0), (0, .ref b)])
    (kk : ∀ (H : Heap) (locs : List Loc) (ls : Array Slot) (t : Int32) (WC WR : va_W), CI g k_h0 k_rd k_tk k_tp k_sp k_dr k_dr_winds k_dr_lees k_dr_gustChances k_dr_gusts k_dr_cloths k_dr_trues k_dr_strengths k_dr_reefs k_dr_cornerNames k_dr_guildNames k_dr_pu k_dr_pu_op k_dr_pu_nu k_dr_pu_st k_dr_ho k_dr_ho_op k_dr_ho_nu k_dr_ho_st k_to k_to_winds k_to_lees k_to_gustChances k_to_gusts k_to_cloths k_to_trues k_to_strengths k_to_reefs k_to_pu k_to_pu_op k_to_pu_nu k_to_pu_st k_to_ho k_to_ho_op k_to_ho_nu k_to_ho_st k_no k_no_or k_no_re k_no_ch k_no_ho k_no_gu k_co k_va k_ou k_tr k_tr_or k_tr_re k_tr_ch k_tr_ho k_tr_gu k_ra k_or_ k_su k_ah k_td k_be k_hi k_sa k_ly k_nu k_si k_s_corners k_s_guilds k_s_wasUp k_s_toldAt k_s_untoldAt k_s_untold k_s_upBehind k_s_fitting k_s_groups k_t2 k_t2_or k_t2_re k_t2_ch k_t2_ho k_t2_gu k_bx k_bf t WC → RI g r_h0 r_m_tape r_m_text r_m_corners r_m_guilds r_m_gusts r_m_units r_m_draw r_m_told r_m_wind r_m_lee r_m_gust r_m_blow r_m_cloth r_m_truth r_m_strong r_m_reefTold r_m_ruleFrom r_m_ruleTo r_m_cName r_m_gName r_m_code r_m_codeNumber r_m_eWhat r_m_eSign r_m_pile r_m_all r_m_was r_m_kept r_m_laidRow r_m_fell r_m_good r_m_least r_m_with r_m_upBy r_m_sCorners r_m_sGuild r_m_sIs r_m_sTold r_m_sUntold r_m_parts r_m_boxAll r_m_isBoxed t WR → va_P g.1 vwCl (WC ++ WR) H → va_D A (WC ++ WR) → va_S A s.heap H locs → lv_has ls 4 [(3, .int (nI i)), (2, .ref r_h0), (1, .ref k_h0), (0, .ref b)] → W p l e room_1 s m #[Value.ref b] below meth c H locs nc ns Q (F0 m 1278 ls [])) : W p l e room_1 s m #[Value.ref b] below meth c H locs nc ns Q (F0 m 897 ls []) := by
  obtain ⟨hx, hb, hml, hr, hlocks, hown, hts, hE, hnm⟩ := id hcx
  refine lv_aload_n hx hb dL_law_897 rfl (lv_at hl 2 rfl) ?_
  refine lk_shield hnc hns hcx hA hl.1 hCI hP hD hS (fun r1 WC H locs hCI hP hD hS => ?_)
  refine lv_pop hx hb dL_law_901 rfl ?_
  refine lv_aload_n hx hb dL_law_902 rfl (lv_at hl 1 rfl) ?_
  have hP := P_perm hP List.perm_append_comm
  have hD := D_perm hD List.perm_append_comm
  refine lr_shield hnc hns hcx hA hl.1 hRI hP hD hS (fun r2 WR H locs hRI hP hD hS => ?_)
  have hP := P_perm hP List.perm_append_comm
  have hD := D_perm hD List.perm_append_comm
  refine lv_pop hx hb dL_law_906 rfl ?_
  refine lv_goto (tgt := 1278) hx hb dL_law_907 (by decide) ?_
  exact kk H locs ls t WC WR hCI hRI hP hD hS hl

set_option maxHeartbeats 4000000 in
set_option maxRecDepth 100000 in
theorem lc_28 {p : Program} {l : Launch} {e : Env} {s : State} {m : MethodId} {below : List Frame} {meth : Method} {c : Code} {g : Gx} {b L : Nat} {xs : Nat → Int32} {A : Nat → Prop} {nc ns : Nat} {z : Sg} {Q : State → Prop} {k_h0 k_rd k_tk k_tp k_sp k_dr k_dr_winds k_dr_lees k_dr_gustChances k_dr_gusts k_dr_cloths k_dr_trues k_dr_strengths k_dr_reefs k_dr_cornerNames k_dr_guildNames k_dr_pu k_dr_pu_op k_dr_pu_nu k_dr_pu_st k_dr_ho k_dr_ho_op k_dr_ho_nu k_dr_ho_st k_to k_to_winds k_to_lees k_to_gustChances k_to_gusts k_to_cloths k_to_trues k_to_strengths k_to_reefs k_to_pu k_to_pu_op k_to_pu_nu k_to_pu_st k_to_ho k_to_ho_op k_to_ho_nu k_to_ho_st k_no k_no_or k_no_re k_no_ch k_no_ho k_no_gu k_co k_va k_ou k_tr k_tr_or k_tr_re k_tr_ch k_tr_ho k_tr_gu k_ra k_or_ k_su k_ah k_td k_be k_hi k_sa k_ly k_nu k_si k_s_corners k_s_guilds k_s_wasUp k_s_toldAt k_s_untoldAt k_s_untold k_s_upBehind k_s_fitting k_s_groups k_t2 k_t2_or k_t2_re k_t2_ch k_t2_ho k_t2_gu k_bx k_bf r_h0 r_m_tape r_m_text r_m_corners r_m_guilds r_m_gusts r_m_units r_m_draw r_m_told r_m_wind r_m_lee r_m_gust r_m_blow r_m_cloth r_m_truth r_m_strong r_m_reefTold r_m_ruleFrom r_m_ruleTo r_m_cName r_m_gName r_m_code r_m_codeNumber r_m_eWhat r_m_eSign r_m_pile r_m_all r_m_was r_m_kept r_m_laidRow r_m_fell r_m_good r_m_least r_m_with r_m_upBy r_m_sCorners r_m_sGuild r_m_sIs r_m_sTold r_m_sUntold r_m_parts r_m_boxAll r_m_isBoxed : Nat} {i : Nat} {H : Heap} {locs : List Loc} {ls : Array Slot} {t : Int32} {WC WR : va_W} (hnc : nc ≤ 10000) (hns : ns ≤ 1000000) (hcx : Cx p s m #[Value.ref b] meth c cL_law 4 ret RL meth.name g) (hF : SEg z A s s.heap) (hX : va_X b L xs s s.heap) (hL : L ≤ 3072) (hbl : b < s.heap.size) (hbA : ¬ A b) (hA : ∀ q : Nat, s.heap.size ≤ q → A q) (hi : i + 6 ≤ L) (hCI : CI g k_h0 k_rd k_tk k_tp k_sp k_dr k_dr_winds k_dr_lees k_dr_gustChances k_dr_gusts k_dr_cloths k_dr_trues k_dr_strengths k_dr_reefs k_dr_cornerNames k_dr_guildNames k_dr_pu k_dr_pu_op k_dr_pu_nu k_dr_pu_st k_dr_ho k_dr_ho_op k_dr_ho_nu k_dr_ho_st k_to k_to_winds k_to_lees k_to_gustChances k_to_gusts k_to_cloths k_to_trues k_to_strengths k_to_reefs k_to_pu k_to_pu_op k_to_pu_nu k_to_pu_st k_to_ho k_to_ho_op k_to_ho_nu k_to_ho_st k_no k_no_or k_no_re k_no_ch k_no_ho k_no_gu k_co k_va k_ou k_tr k_tr_or k_tr_re k_tr_ch k_tr_ho k_tr_gu k_ra k_or_ k_su k_ah k_td k_be k_hi k_sa k_ly k_nu k_si k_s_corners k_s_guilds k_s_wasUp k_s_toldAt k_s_untoldAt k_s_untold k_s_upBehind k_s_fitting k_s_groups k_t2 k_t2_or k_t2_re k_t2_ch k_t2_ho k_t2_gu k_bx k_bf t WC) (hRI : RI g r_h0 r_m_tape r_m_text r_m_corners r_m_guilds r_m_gusts r_m_units r_m_draw r_m_told r_m_wind r_m_lee r_m_gust r_m_blow r_m_cloth r_m_truth r_m_strong r_m_reefTold r_m_ruleFrom r_m_ruleTo r_m_cName r_m_gName r_m_code r_m_codeNumber r_m_eWhat r_m_eSign r_m_pile r_m_all r_m_was r_m_kept r_m_laidRow r_m_fell r_m_good r_m_least r_m_with r_m_upBy r_m_sCorners r_m_sGuild r_m_sIs r_m_sTold r_m_sUntold r_m_parts r_m_boxAll r_m_isBoxed t WR) (hP : va_P g.1 vwCl (WC ++ WR) H) (hD : va_D A (WC ++ WR)) (hS : va_S A s.heap H locs) (hl : lv_has ls 4 [(3, .int (nI i)), (2, .ref r_h0), (1, .ref k_h0), (0, .ref b)])
    (kk : ∀ (H : Heap) (locs : List Loc) (ls : Array Slot) (t : Int32) (WC WR : va_W), CI g k_h0 k_rd k_tk k_tp k_sp k_dr k_dr_winds k_dr_lees k_dr_gustChances k_dr_gusts k_dr_cloths k_dr_trues k_dr_strengths k_dr_reefs k_dr_cornerNames k_dr_guildNames k_dr_pu k_dr_pu_op k_dr_pu_nu k_dr_pu_st k_dr_ho k_dr_ho_op k_dr_ho_nu k_dr_ho_st k_to k_to_winds k_to_lees k_to_gustChances k_to_gusts k_to_cloths k_to_trues k_to_strengths k_to_reefs k_to_pu k_to_pu_op k_to_pu_nu k_to_pu_st k_to_ho k_to_ho_op k_to_ho_nu k_to_ho_st k_no k_no_or k_no_re k_no_ch k_no_ho k_no_gu k_co k_va k_ou k_tr k_tr_or k_tr_re k_tr_ch k_tr_ho k_tr_gu k_ra k_or_ k_su k_ah k_td k_be k_hi k_sa k_ly k_nu k_si k_s_corners k_s_guilds k_s_wasUp k_s_toldAt k_s_untoldAt k_s_untold k_s_upBehind k_s_fitting k_s_groups k_t2 k_t2_or k_t2_re k_t2_ch k_t2_ho k_t2_gu k_bx k_bf t WC → RI g r_h0 r_m_tape r_m_text r_m_corners r_m_guilds r_m_gusts r_m_units r_m_draw r_m_told r_m_wind r_m_lee r_m_gust r_m_blow r_m_cloth r_m_truth r_m_strong r_m_reefTold r_m_ruleFrom r_m_ruleTo r_m_cName r_m_gName r_m_code r_m_codeNumber r_m_eWhat r_m_eSign r_m_pile r_m_all r_m_was r_m_kept r_m_laidRow r_m_fell r_m_good r_m_least r_m_with r_m_upBy r_m_sCorners r_m_sGuild r_m_sIs r_m_sTold r_m_sUntold r_m_parts r_m_boxAll r_m_isBoxed t WR → va_P g.1 vwCl (WC ++ WR) H → va_D A (WC ++ WR) → va_S A s.heap H locs → lv_has ls 4 [(3, .int (nI i)), (2, .ref r_h0), (1, .ref k_h0), (0, .ref b)] → W p l e room_1 s m #[Value.ref b] below meth c H locs nc ns Q (F0 m 1278 ls [])) : W p l e room_1 s m #[Value.ref b] below meth c H locs nc ns Q (F0 m 910 ls []) := by
  obtain ⟨hx, hb, hml, hr, hlocks, hown, hts, hE, hnm⟩ := id hcx
  refine lv_aload_n hx hb dL_law_910 rfl (lv_at hl 2 rfl) ?_
  refine lv_aload_n hx hb dL_law_911 rfl (lv_at hl 3 rfl) ?_
  refine lv_iload_n hx hb dL_law_912 rfl (lv_at hl 0 rfl) ?_
  refine lv_iconst (v := 1) hx hb dL_law_913 (by decide) ?_
  refine lv_iadd hx hb dL_law_914 ?_
  refine lv_tope (y := (nI (i + 1))) (nI_add (i) (1)) ?_
  refine sc_ld hx hb hX hbl hbA hS (i + 1) rfl (by omega) (by omega) dL_law_915 ?_
  refine lk_law ((xs (i + 1))) hnc hns hcx hA hl.1 hCI hP hD hS (fun r1 WC H locs hCI hP hD hS => ?_)
  refine lv_pop hx hb dL_law_919 rfl ?_
  refine lv_aload_n hx hb dL_law_920 rfl (lv_at hl 1 rfl) ?_
  refine lv_aload_n hx hb dL_law_921 rfl (lv_at hl 3 rfl) ?_
  refine lv_iload_n hx hb dL_law_922 rfl (lv_at hl 0 rfl) ?_
  refine lv_iconst (v := 1) hx hb dL_law_923 (by decide) ?_
  refine lv_iadd hx hb dL_law_924 ?_
  refine lv_tope (y := (nI (i + 1))) (nI_add (i) (1)) ?_
  refine sc_ld hx hb hX hbl hbA hS (i + 1) rfl (by omega) (by omega) dL_law_925 ?_
  have hP := P_perm hP List.perm_append_comm
  have hD := D_perm hD List.perm_append_comm
  refine lr_law ((xs (i + 1))) hnc hns hcx hA hl.1 hRI hP hD hS (fun r2 WR H locs hRI hP hD hS => ?_)
  have hP := P_perm hP List.perm_append_comm
  have hD := D_perm hD List.perm_append_comm
  refine lv_pop hx hb dL_law_929 rfl ?_
  refine lv_goto (tgt := 1278) hx hb dL_law_930 (by decide) ?_
  exact kk H locs ls t WC WR hCI hRI hP hD hS hl

set_option maxHeartbeats 4000000 in
set_option maxRecDepth 100000 in
theorem lc_29 {p : Program} {l : Launch} {e : Env} {s : State} {m : MethodId} {below : List Frame} {meth : Method} {c : Code} {g : Gx} {b L : Nat} {xs : Nat → Int32} {A : Nat → Prop} {nc ns : Nat} {z : Sg} {Q : State → Prop} {k_h0 k_rd k_tk k_tp k_sp k_dr k_dr_winds k_dr_lees k_dr_gustChances k_dr_gusts k_dr_cloths k_dr_trues k_dr_strengths k_dr_reefs k_dr_cornerNames k_dr_guildNames k_dr_pu k_dr_pu_op k_dr_pu_nu k_dr_pu_st k_dr_ho k_dr_ho_op k_dr_ho_nu k_dr_ho_st k_to k_to_winds k_to_lees k_to_gustChances k_to_gusts k_to_cloths k_to_trues k_to_strengths k_to_reefs k_to_pu k_to_pu_op k_to_pu_nu k_to_pu_st k_to_ho k_to_ho_op k_to_ho_nu k_to_ho_st k_no k_no_or k_no_re k_no_ch k_no_ho k_no_gu k_co k_va k_ou k_tr k_tr_or k_tr_re k_tr_ch k_tr_ho k_tr_gu k_ra k_or_ k_su k_ah k_td k_be k_hi k_sa k_ly k_nu k_si k_s_corners k_s_guilds k_s_wasUp k_s_toldAt k_s_untoldAt k_s_untold k_s_upBehind k_s_fitting k_s_groups k_t2 k_t2_or k_t2_re k_t2_ch k_t2_ho k_t2_gu k_bx k_bf r_h0 r_m_tape r_m_text r_m_corners r_m_guilds r_m_gusts r_m_units r_m_draw r_m_told r_m_wind r_m_lee r_m_gust r_m_blow r_m_cloth r_m_truth r_m_strong r_m_reefTold r_m_ruleFrom r_m_ruleTo r_m_cName r_m_gName r_m_code r_m_codeNumber r_m_eWhat r_m_eSign r_m_pile r_m_all r_m_was r_m_kept r_m_laidRow r_m_fell r_m_good r_m_least r_m_with r_m_upBy r_m_sCorners r_m_sGuild r_m_sIs r_m_sTold r_m_sUntold r_m_parts r_m_boxAll r_m_isBoxed : Nat} {i : Nat} {H : Heap} {locs : List Loc} {ls : Array Slot} {t : Int32} {WC WR : va_W} (hnc : nc ≤ 10000) (hns : ns ≤ 1000000) (hcx : Cx p s m #[Value.ref b] meth c cL_law 4 ret RL meth.name g) (hF : SEg z A s s.heap) (hX : va_X b L xs s s.heap) (hL : L ≤ 3072) (hbl : b < s.heap.size) (hbA : ¬ A b) (hA : ∀ q : Nat, s.heap.size ≤ q → A q) (hi : i + 6 ≤ L) (hCI : CI g k_h0 k_rd k_tk k_tp k_sp k_dr k_dr_winds k_dr_lees k_dr_gustChances k_dr_gusts k_dr_cloths k_dr_trues k_dr_strengths k_dr_reefs k_dr_cornerNames k_dr_guildNames k_dr_pu k_dr_pu_op k_dr_pu_nu k_dr_pu_st k_dr_ho k_dr_ho_op k_dr_ho_nu k_dr_ho_st k_to k_to_winds k_to_lees k_to_gustChances k_to_gusts k_to_cloths k_to_trues k_to_strengths k_to_reefs k_to_pu k_to_pu_op k_to_pu_nu k_to_pu_st k_to_ho k_to_ho_op k_to_ho_nu k_to_ho_st k_no k_no_or k_no_re k_no_ch k_no_ho k_no_gu k_co k_va k_ou k_tr k_tr_or k_tr_re k_tr_ch k_tr_ho k_tr_gu k_ra k_or_ k_su k_ah k_td k_be k_hi k_sa k_ly k_nu k_si k_s_corners k_s_guilds k_s_wasUp k_s_toldAt k_s_untoldAt k_s_untold k_s_upBehind k_s_fitting k_s_groups k_t2 k_t2_or k_t2_re k_t2_ch k_t2_ho k_t2_gu k_bx k_bf t WC) (hRI : RI g r_h0 r_m_tape r_m_text r_m_corners r_m_guilds r_m_gusts r_m_units r_m_draw r_m_told r_m_wind r_m_lee r_m_gust r_m_blow r_m_cloth r_m_truth r_m_strong r_m_reefTold r_m_ruleFrom r_m_ruleTo r_m_cName r_m_gName r_m_code r_m_codeNumber r_m_eWhat r_m_eSign r_m_pile r_m_all r_m_was r_m_kept r_m_laidRow r_m_fell r_m_good r_m_least r_m_with r_m_upBy r_m_sCorners r_m_sGuild r_m_sIs r_m_sTold r_m_sUntold r_m_parts r_m_boxAll r_m_isBoxed t WR) (hP : va_P g.1 vwCl (WC ++ WR) H) (hD : va_D A (WC ++ WR)) (hS : va_S A s.heap H locs) (hl : lv_has ls 4 [(3, .int (nI i)), (2, .ref r_h0), (1, .ref k_h0), (0, .ref b)])
    (kk : ∀ (H : Heap) (locs : List Loc) (ls : Array Slot) (t : Int32) (WC WR : va_W), CI g k_h0 k_rd k_tk k_tp k_sp k_dr k_dr_winds k_dr_lees k_dr_gustChances k_dr_gusts k_dr_cloths k_dr_trues k_dr_strengths k_dr_reefs k_dr_cornerNames k_dr_guildNames k_dr_pu k_dr_pu_op k_dr_pu_nu k_dr_pu_st k_dr_ho k_dr_ho_op k_dr_ho_nu k_dr_ho_st k_to k_to_winds k_to_lees k_to_gustChances k_to_gusts k_to_cloths k_to_trues k_to_strengths k_to_reefs k_to_pu k_to_pu_op k_to_pu_nu k_to_pu_st k_to_ho k_to_ho_op k_to_ho_nu k_to_ho_st k_no k_no_or k_no_re k_no_ch k_no_ho k_no_gu k_co k_va k_ou k_tr k_tr_or k_tr_re k_tr_ch k_tr_ho k_tr_gu k_ra k_or_ k_su k_ah k_td k_be k_hi k_sa k_ly k_nu k_si k_s_corners k_s_guilds k_s_wasUp k_s_toldAt k_s_untoldAt k_s_untold k_s_upBehind k_s_fitting k_s_groups k_t2 k_t2_or k_t2_re k_t2_ch k_t2_ho k_t2_gu k_bx k_bf t WC → RI g r_h0 r_m_tape r_m_text r_m_corners r_m_guilds r_m_gusts r_m_units r_m_draw r_m_told r_m_wind r_m_lee r_m_gust r_m_blow r_m_cloth r_m_truth r_m_strong r_m_reefTold r_m_ruleFrom r_m_ruleTo r_m_cName r_m_gName r_m_code r_m_codeNumber r_m_eWhat r_m_eSign r_m_pile r_m_all r_m_was r_m_kept r_m_laidRow r_m_fell r_m_good r_m_least r_m_with r_m_upBy r_m_sCorners r_m_sGuild r_m_sIs r_m_sTold r_m_sUntold r_m_parts r_m_boxAll r_m_isBoxed t WR → va_P g.1 vwCl (WC ++ WR) H → va_D A (WC ++ WR) → va_S A s.heap H locs → lv_has ls 4 [(3, .int (nI i)), (2, .ref r_h0), (1, .ref k_h0), (0, .ref b)] → W p l e room_1 s m #[Value.ref b] below meth c H locs nc ns Q (F0 m 1278 ls [])) : W p l e room_1 s m #[Value.ref b] below meth c H locs nc ns Q (F0 m 933 ls []) := by
  obtain ⟨hx, hb, hml, hr, hlocks, hown, hts, hE, hnm⟩ := id hcx
  refine lv_aload_n hx hb dL_law_933 rfl (lv_at hl 2 rfl) ?_
  refine lk_worst hnc hns hcx hA hl.1 hCI hP hD hS (fun r1 WC H locs hCI hP hD hS => ?_)
  refine lv_pop hx hb dL_law_937 rfl ?_
  refine lv_aload_n hx hb dL_law_938 rfl (lv_at hl 1 rfl) ?_
  have hP := P_perm hP List.perm_append_comm
  have hD := D_perm hD List.perm_append_comm
  refine lr_worst hnc hns hcx hA hl.1 hRI hP hD hS (fun r2 WR H locs hRI hP hD hS => ?_)
  have hP := P_perm hP List.perm_append_comm
  have hD := D_perm hD List.perm_append_comm
  refine lv_pop hx hb dL_law_942 rfl ?_
  refine lv_goto (tgt := 1278) hx hb dL_law_943 (by decide) ?_
  exact kk H locs ls t WC WR hCI hRI hP hD hS hl

set_option maxHeartbeats 4000000 in
set_option maxRecDepth 100000 in
theorem lc_30 {p : Program} {l : Launch} {e : Env} {s : State} {m : MethodId} {below : List Frame} {meth : Method} {c : Code} {g : Gx} {b L : Nat} {xs : Nat → Int32} {A : Nat → Prop} {nc ns : Nat} {z : Sg} {Q : State → Prop} {k_h0 k_rd k_tk k_tp k_sp k_dr k_dr_winds k_dr_lees k_dr_gustChances k_dr_gusts k_dr_cloths k_dr_trues k_dr_strengths k_dr_reefs k_dr_cornerNames k_dr_guildNames k_dr_pu k_dr_pu_op k_dr_pu_nu k_dr_pu_st k_dr_ho k_dr_ho_op k_dr_ho_nu k_dr_ho_st k_to k_to_winds k_to_lees k_to_gustChances k_to_gusts k_to_cloths k_to_trues k_to_strengths k_to_reefs k_to_pu k_to_pu_op k_to_pu_nu k_to_pu_st k_to_ho k_to_ho_op k_to_ho_nu k_to_ho_st k_no k_no_or k_no_re k_no_ch k_no_ho k_no_gu k_co k_va k_ou k_tr k_tr_or k_tr_re k_tr_ch k_tr_ho k_tr_gu k_ra k_or_ k_su k_ah k_td k_be k_hi k_sa k_ly k_nu k_si k_s_corners k_s_guilds k_s_wasUp k_s_toldAt k_s_untoldAt k_s_untold k_s_upBehind k_s_fitting k_s_groups k_t2 k_t2_or k_t2_re k_t2_ch k_t2_ho k_t2_gu k_bx k_bf r_h0 r_m_tape r_m_text r_m_corners r_m_guilds r_m_gusts r_m_units r_m_draw r_m_told r_m_wind r_m_lee r_m_gust r_m_blow r_m_cloth r_m_truth r_m_strong r_m_reefTold r_m_ruleFrom r_m_ruleTo r_m_cName r_m_gName r_m_code r_m_codeNumber r_m_eWhat r_m_eSign r_m_pile r_m_all r_m_was r_m_kept r_m_laidRow r_m_fell r_m_good r_m_least r_m_with r_m_upBy r_m_sCorners r_m_sGuild r_m_sIs r_m_sTold r_m_sUntold r_m_parts r_m_boxAll r_m_isBoxed : Nat} {i : Nat} {H : Heap} {locs : List Loc} {ls : Array Slot} {t : Int32} {WC WR : va_W} (hnc : nc ≤ 10000) (hns : ns ≤ 1000000) (hcx : Cx p s m #[Value.ref b] meth c cL_law 4 ret RL meth.name g) (hF : SEg z A s s.heap) (hX : va_X b L xs s s.heap) (hL : L ≤ 3072) (hbl : b < s.heap.size) (hbA : ¬ A b) (hA : ∀ q : Nat, s.heap.size ≤ q → A q) (hi : i + 6 ≤ L) (hCI : CI g k_h0 k_rd k_tk k_tp k_sp k_dr k_dr_winds k_dr_lees k_dr_gustChances k_dr_gusts k_dr_cloths k_dr_trues k_dr_strengths k_dr_reefs k_dr_cornerNames k_dr_guildNames k_dr_pu k_dr_pu_op k_dr_pu_nu k_dr_pu_st k_dr_ho k_dr_ho_op k_dr_ho_nu k_dr_ho_st k_to k_to_winds k_to_lees k_to_gustChances k_to_gusts k_to_cloths k_to_trues k_to_strengths k_to_reefs k_to_pu k_to_pu_op k_to_pu_nu k_to_pu_st k_to_ho k_to_ho_op k_to_ho_nu k_to_ho_st k_no k_no_or k_no_re k_no_ch k_no_ho k_no_gu k_co k_va k_ou k_tr k_tr_or k_tr_re k_tr_ch k_tr_ho k_tr_gu k_ra k_or_ k_su k_ah k_td k_be k_hi k_sa k_ly k_nu k_si k_s_corners k_s_guilds k_s_wasUp k_s_toldAt k_s_untoldAt k_s_untold k_s_upBehind k_s_fitting k_s_groups k_t2 k_t2_or k_t2_re k_t2_ch k_t2_ho k_t2_gu k_bx k_bf t WC) (hRI : RI g r_h0 r_m_tape r_m_text r_m_corners r_m_guilds r_m_gusts r_m_units r_m_draw r_m_told r_m_wind r_m_lee r_m_gust r_m_blow r_m_cloth r_m_truth r_m_strong r_m_reefTold r_m_ruleFrom r_m_ruleTo r_m_cName r_m_gName r_m_code r_m_codeNumber r_m_eWhat r_m_eSign r_m_pile r_m_all r_m_was r_m_kept r_m_laidRow r_m_fell r_m_good r_m_least r_m_with r_m_upBy r_m_sCorners r_m_sGuild r_m_sIs r_m_sTold r_m_sUntold r_m_parts r_m_boxAll r_m_isBoxed t WR) (hP : va_P g.1 vwCl (WC ++ WR) H) (hD : va_D A (WC ++ WR)) (hS : va_S A s.heap H locs) (hl : lv_has ls 4 [(3, .int (nI i)), (2, .ref r_h0), (1, .ref k_h0), (0, .ref b)])
    (kk : ∀ (H : Heap) (locs : List Loc) (ls : Array Slot) (t : Int32) (WC WR : va_W), CI g k_h0 k_rd k_tk k_tp k_sp k_dr k_dr_winds k_dr_lees k_dr_gustChances k_dr_gusts k_dr_cloths k_dr_trues k_dr_strengths k_dr_reefs k_dr_cornerNames k_dr_guildNames k_dr_pu k_dr_pu_op k_dr_pu_nu k_dr_pu_st k_dr_ho k_dr_ho_op k_dr_ho_nu k_dr_ho_st k_to k_to_winds k_to_lees k_to_gustChances k_to_gusts k_to_cloths k_to_trues k_to_strengths k_to_reefs k_to_pu k_to_pu_op k_to_pu_nu k_to_pu_st k_to_ho k_to_ho_op k_to_ho_nu k_to_ho_st k_no k_no_or k_no_re k_no_ch k_no_ho k_no_gu k_co k_va k_ou k_tr k_tr_or k_tr_re k_tr_ch k_tr_ho k_tr_gu k_ra k_or_ k_su k_ah k_td k_be k_hi k_sa k_ly k_nu k_si k_s_corners k_s_guilds k_s_wasUp k_s_toldAt k_s_untoldAt k_s_untold k_s_upBehind k_s_fitting k_s_groups k_t2 k_t2_or k_t2_re k_t2_ch k_t2_ho k_t2_gu k_bx k_bf t WC → RI g r_h0 r_m_tape r_m_text r_m_corners r_m_guilds r_m_gusts r_m_units r_m_draw r_m_told r_m_wind r_m_lee r_m_gust r_m_blow r_m_cloth r_m_truth r_m_strong r_m_reefTold r_m_ruleFrom r_m_ruleTo r_m_cName r_m_gName r_m_code r_m_codeNumber r_m_eWhat r_m_eSign r_m_pile r_m_all r_m_was r_m_kept r_m_laidRow r_m_fell r_m_good r_m_least r_m_with r_m_upBy r_m_sCorners r_m_sGuild r_m_sIs r_m_sTold r_m_sUntold r_m_parts r_m_boxAll r_m_isBoxed t WR → va_P g.1 vwCl (WC ++ WR) H → va_D A (WC ++ WR) → va_S A s.heap H locs → lv_has ls 4 [(3, .int (nI i)), (2, .ref r_h0), (1, .ref k_h0), (0, .ref b)] → W p l e room_1 s m #[Value.ref b] below meth c H locs nc ns Q (F0 m 1278 ls [])) : W p l e room_1 s m #[Value.ref b] below meth c H locs nc ns Q (F0 m 946 ls []) := by
  obtain ⟨hx, hb, hml, hr, hlocks, hown, hts, hE, hnm⟩ := id hcx
  refine lv_aload_n hx hb dL_law_946 rfl (lv_at hl 2 rfl) ?_
  refine lk_narrow hnc hns hcx hA hl.1 hCI hP hD hS (fun r1 WC H locs hCI hP hD hS => ?_)
  refine lv_pop hx hb dL_law_950 rfl ?_
  refine lv_aload_n hx hb dL_law_951 rfl (lv_at hl 1 rfl) ?_
  have hP := P_perm hP List.perm_append_comm
  have hD := D_perm hD List.perm_append_comm
  refine lr_narrow hnc hns hcx hA hl.1 hRI hP hD hS (fun r2 WR H locs hRI hP hD hS => ?_)
  have hP := P_perm hP List.perm_append_comm
  have hD := D_perm hD List.perm_append_comm
  refine lv_pop hx hb dL_law_955 rfl ?_
  refine lv_goto (tgt := 1278) hx hb dL_law_956 (by decide) ?_
  exact kk H locs ls t WC WR hCI hRI hP hD hS hl

set_option maxHeartbeats 4000000 in
set_option maxRecDepth 100000 in
theorem lc_31 {p : Program} {l : Launch} {e : Env} {s : State} {m : MethodId} {below : List Frame} {meth : Method} {c : Code} {g : Gx} {b L : Nat} {xs : Nat → Int32} {A : Nat → Prop} {nc ns : Nat} {z : Sg} {Q : State → Prop} {k_h0 k_rd k_tk k_tp k_sp k_dr k_dr_winds k_dr_lees k_dr_gustChances k_dr_gusts k_dr_cloths k_dr_trues k_dr_strengths k_dr_reefs k_dr_cornerNames k_dr_guildNames k_dr_pu k_dr_pu_op k_dr_pu_nu k_dr_pu_st k_dr_ho k_dr_ho_op k_dr_ho_nu k_dr_ho_st k_to k_to_winds k_to_lees k_to_gustChances k_to_gusts k_to_cloths k_to_trues k_to_strengths k_to_reefs k_to_pu k_to_pu_op k_to_pu_nu k_to_pu_st k_to_ho k_to_ho_op k_to_ho_nu k_to_ho_st k_no k_no_or k_no_re k_no_ch k_no_ho k_no_gu k_co k_va k_ou k_tr k_tr_or k_tr_re k_tr_ch k_tr_ho k_tr_gu k_ra k_or_ k_su k_ah k_td k_be k_hi k_sa k_ly k_nu k_si k_s_corners k_s_guilds k_s_wasUp k_s_toldAt k_s_untoldAt k_s_untold k_s_upBehind k_s_fitting k_s_groups k_t2 k_t2_or k_t2_re k_t2_ch k_t2_ho k_t2_gu k_bx k_bf r_h0 r_m_tape r_m_text r_m_corners r_m_guilds r_m_gusts r_m_units r_m_draw r_m_told r_m_wind r_m_lee r_m_gust r_m_blow r_m_cloth r_m_truth r_m_strong r_m_reefTold r_m_ruleFrom r_m_ruleTo r_m_cName r_m_gName r_m_code r_m_codeNumber r_m_eWhat r_m_eSign r_m_pile r_m_all r_m_was r_m_kept r_m_laidRow r_m_fell r_m_good r_m_least r_m_with r_m_upBy r_m_sCorners r_m_sGuild r_m_sIs r_m_sTold r_m_sUntold r_m_parts r_m_boxAll r_m_isBoxed : Nat} {i : Nat} {H : Heap} {locs : List Loc} {ls : Array Slot} {t : Int32} {WC WR : va_W} (hnc : nc ≤ 10000) (hns : ns ≤ 1000000) (hcx : Cx p s m #[Value.ref b] meth c cL_law 4 ret RL meth.name g) (hF : SEg z A s s.heap) (hX : va_X b L xs s s.heap) (hL : L ≤ 3072) (hbl : b < s.heap.size) (hbA : ¬ A b) (hA : ∀ q : Nat, s.heap.size ≤ q → A q) (hi : i + 6 ≤ L) (hCI : CI g k_h0 k_rd k_tk k_tp k_sp k_dr k_dr_winds k_dr_lees k_dr_gustChances k_dr_gusts k_dr_cloths k_dr_trues k_dr_strengths k_dr_reefs k_dr_cornerNames k_dr_guildNames k_dr_pu k_dr_pu_op k_dr_pu_nu k_dr_pu_st k_dr_ho k_dr_ho_op k_dr_ho_nu k_dr_ho_st k_to k_to_winds k_to_lees k_to_gustChances k_to_gusts k_to_cloths k_to_trues k_to_strengths k_to_reefs k_to_pu k_to_pu_op k_to_pu_nu k_to_pu_st k_to_ho k_to_ho_op k_to_ho_nu k_to_ho_st k_no k_no_or k_no_re k_no_ch k_no_ho k_no_gu k_co k_va k_ou k_tr k_tr_or k_tr_re k_tr_ch k_tr_ho k_tr_gu k_ra k_or_ k_su k_ah k_td k_be k_hi k_sa k_ly k_nu k_si k_s_corners k_s_guilds k_s_wasUp k_s_toldAt k_s_untoldAt k_s_untold k_s_upBehind k_s_fitting k_s_groups k_t2 k_t2_or k_t2_re k_t2_ch k_t2_ho k_t2_gu k_bx k_bf t WC) (hRI : RI g r_h0 r_m_tape r_m_text r_m_corners r_m_guilds r_m_gusts r_m_units r_m_draw r_m_told r_m_wind r_m_lee r_m_gust r_m_blow r_m_cloth r_m_truth r_m_strong r_m_reefTold r_m_ruleFrom r_m_ruleTo r_m_cName r_m_gName r_m_code r_m_codeNumber r_m_eWhat r_m_eSign r_m_pile r_m_all r_m_was r_m_kept r_m_laidRow r_m_fell r_m_good r_m_least r_m_with r_m_upBy r_m_sCorners r_m_sGuild r_m_sIs r_m_sTold r_m_sUntold r_m_parts r_m_boxAll r_m_isBoxed t WR) (hP : va_P g.1 vwCl (WC ++ WR) H) (hD : va_D A (WC ++ WR)) (hS : va_S A s.heap H locs) (hl : lv_has ls 4 [(3, .int (nI i)), (2, .ref r_h0), (1, .ref k_h0), (0, .ref b)])
    (kk : ∀ (H : Heap) (locs : List Loc) (ls : Array Slot) (t : Int32) (WC WR : va_W), CI g k_h0 k_rd k_tk k_tp k_sp k_dr k_dr_winds k_dr_lees k_dr_gustChances k_dr_gusts k_dr_cloths k_dr_trues k_dr_strengths k_dr_reefs k_dr_cornerNames k_dr_guildNames k_dr_pu k_dr_pu_op k_dr_pu_nu k_dr_pu_st k_dr_ho k_dr_ho_op k_dr_ho_nu k_dr_ho_st k_to k_to_winds k_to_lees k_to_gustChances k_to_gusts k_to_cloths k_to_trues k_to_strengths k_to_reefs k_to_pu k_to_pu_op k_to_pu_nu k_to_pu_st k_to_ho k_to_ho_op k_to_ho_nu k_to_ho_st k_no k_no_or k_no_re k_no_ch k_no_ho k_no_gu k_co k_va k_ou k_tr k_tr_or k_tr_re k_tr_ch k_tr_ho k_tr_gu k_ra k_or_ k_su k_ah k_td k_be k_hi k_sa k_ly k_nu k_si k_s_corners k_s_guilds k_s_wasUp k_s_toldAt k_s_untoldAt k_s_untold k_s_upBehind k_s_fitting k_s_groups k_t2 k_t2_or k_t2_re k_t2_ch k_t2_ho k_t2_gu k_bx k_bf t WC → RI g r_h0 r_m_tape r_m_text r_m_corners r_m_guilds r_m_gusts r_m_units r_m_draw r_m_told r_m_wind r_m_lee r_m_gust r_m_blow r_m_cloth r_m_truth r_m_strong r_m_reefTold r_m_ruleFrom r_m_ruleTo r_m_cName r_m_gName r_m_code r_m_codeNumber r_m_eWhat r_m_eSign r_m_pile r_m_all r_m_was r_m_kept r_m_laidRow r_m_fell r_m_good r_m_least r_m_with r_m_upBy r_m_sCorners r_m_sGuild r_m_sIs r_m_sTold r_m_sUntold r_m_parts r_m_boxAll r_m_isBoxed t WR → va_P g.1 vwCl (WC ++ WR) H → va_D A (WC ++ WR) → va_S A s.heap H locs → lv_has ls 4 [(3, .int (nI i)), (2, .ref r_h0), (1, .ref k_h0), (0, .ref b)] → W p l e room_1 s m #[Value.ref b] below meth c H locs nc ns Q (F0 m 1278 ls [])) : W p l e room_1 s m #[Value.ref b] below meth c H locs nc ns Q (F0 m 959 ls []) := by
  obtain ⟨hx, hb, hml, hr, hlocks, hown, hts, hE, hnm⟩ := id hcx
  refine lv_aload_n hx hb dL_law_959 rfl (lv_at hl 2 rfl) ?_
  refine lv_aload_n hx hb dL_law_960 rfl (lv_at hl 3 rfl) ?_
  refine lv_iload_n hx hb dL_law_961 rfl (lv_at hl 0 rfl) ?_
  refine lv_iconst (v := 1) hx hb dL_law_962 (by decide) ?_
  refine lv_iadd hx hb dL_law_963 ?_
  refine lv_tope (y := (nI (i + 1))) (nI_add (i) (1)) ?_
  refine sc_ld hx hb hX hbl hbA hS (i + 1) rfl (by omega) (by omega) dL_law_964 ?_
  refine lv_aload_n hx hb dL_law_965 rfl (lv_at hl 3 rfl) ?_
  refine lv_iload_n hx hb dL_law_966 rfl (lv_at hl 0 rfl) ?_
  refine lv_iconst (v := 2) hx hb dL_law_967 (by decide) ?_
  refine lv_iadd hx hb dL_law_968 ?_
  refine lv_tope (y := (nI (i + 2))) (nI_add (i) (2)) ?_
  refine sc_ld hx hb hX hbl hbA hS (i + 2) rfl (by omega) (by omega) dL_law_969 ?_
  refine lk_odds ((xs (i + 1))) ((xs (i + 2))) hnc hns hcx hA hl.1 hCI hP hD hS (fun r1 WC H locs hCI hP hD hS => ?_)
  refine lv_pop hx hb dL_law_973 rfl ?_
  refine lv_aload_n hx hb dL_law_974 rfl (lv_at hl 1 rfl) ?_
  refine lv_aload_n hx hb dL_law_975 rfl (lv_at hl 3 rfl) ?_
  refine lv_iload_n hx hb dL_law_976 rfl (lv_at hl 0 rfl) ?_
  refine lv_iconst (v := 1) hx hb dL_law_977 (by decide) ?_
  refine lv_iadd hx hb dL_law_978 ?_
  refine lv_tope (y := (nI (i + 1))) (nI_add (i) (1)) ?_
  refine sc_ld hx hb hX hbl hbA hS (i + 1) rfl (by omega) (by omega) dL_law_979 ?_
  refine lv_aload_n hx hb dL_law_980 rfl (lv_at hl 3 rfl) ?_
  refine lv_iload_n hx hb dL_law_981 rfl (lv_at hl 0 rfl) ?_
  refine lv_iconst (v := 2) hx hb dL_law_982 (by decide) ?_
  refine lv_iadd hx hb dL_law_983 ?_
  refine lv_tope (y := (nI (i + 2))) (nI_add (i) (2)) ?_
  refine sc_ld hx hb hX hbl hbA hS (i + 2) rfl (by omega) (by omega) dL_law_984 ?_
  have hP := P_perm hP List.perm_append_comm
  have hD := D_perm hD List.perm_append_comm
  refine lr_odds ((xs (i + 1))) ((xs (i + 2))) hnc hns hcx hA hl.1 hRI hP hD hS (fun r2 WR H locs hRI hP hD hS => ?_)
  have hP := P_perm hP List.perm_append_comm
  have hD := D_perm hD List.perm_append_comm
  refine lv_pop hx hb dL_law_988 rfl ?_
  refine lv_goto (tgt := 1278) hx hb dL_law_989 (by decide) ?_
  exact kk H locs ls t WC WR hCI hRI hP hD hS hl

set_option maxHeartbeats 4000000 in
set_option maxRecDepth 100000 in
theorem lc_32 {p : Program} {l : Launch} {e : Env} {s : State} {m : MethodId} {below : List Frame} {meth : Method} {c : Code} {g : Gx} {b L : Nat} {xs : Nat → Int32} {A : Nat → Prop} {nc ns : Nat} {z : Sg} {Q : State → Prop} {k_h0 k_rd k_tk k_tp k_sp k_dr k_dr_winds k_dr_lees k_dr_gustChances k_dr_gusts k_dr_cloths k_dr_trues k_dr_strengths k_dr_reefs k_dr_cornerNames k_dr_guildNames k_dr_pu k_dr_pu_op k_dr_pu_nu k_dr_pu_st k_dr_ho k_dr_ho_op k_dr_ho_nu k_dr_ho_st k_to k_to_winds k_to_lees k_to_gustChances k_to_gusts k_to_cloths k_to_trues k_to_strengths k_to_reefs k_to_pu k_to_pu_op k_to_pu_nu k_to_pu_st k_to_ho k_to_ho_op k_to_ho_nu k_to_ho_st k_no k_no_or k_no_re k_no_ch k_no_ho k_no_gu k_co k_va k_ou k_tr k_tr_or k_tr_re k_tr_ch k_tr_ho k_tr_gu k_ra k_or_ k_su k_ah k_td k_be k_hi k_sa k_ly k_nu k_si k_s_corners k_s_guilds k_s_wasUp k_s_toldAt k_s_untoldAt k_s_untold k_s_upBehind k_s_fitting k_s_groups k_t2 k_t2_or k_t2_re k_t2_ch k_t2_ho k_t2_gu k_bx k_bf r_h0 r_m_tape r_m_text r_m_corners r_m_guilds r_m_gusts r_m_units r_m_draw r_m_told r_m_wind r_m_lee r_m_gust r_m_blow r_m_cloth r_m_truth r_m_strong r_m_reefTold r_m_ruleFrom r_m_ruleTo r_m_cName r_m_gName r_m_code r_m_codeNumber r_m_eWhat r_m_eSign r_m_pile r_m_all r_m_was r_m_kept r_m_laidRow r_m_fell r_m_good r_m_least r_m_with r_m_upBy r_m_sCorners r_m_sGuild r_m_sIs r_m_sTold r_m_sUntold r_m_parts r_m_boxAll r_m_isBoxed : Nat} {i : Nat} {H : Heap} {locs : List Loc} {ls : Array Slot} {t : Int32} {WC WR : va_W} (hnc : nc ≤ 10000) (hns : ns ≤ 1000000) (hcx : Cx p s m #[Value.ref b] meth c cL_law 4 ret RL meth.name g) (hF : SEg z A s s.heap) (hX : va_X b L xs s s.heap) (hL : L ≤ 3072) (hbl : b < s.heap.size) (hbA : ¬ A b) (hA : ∀ q : Nat, s.heap.size ≤ q → A q) (hi : i + 6 ≤ L) (hCI : CI g k_h0 k_rd k_tk k_tp k_sp k_dr k_dr_winds k_dr_lees k_dr_gustChances k_dr_gusts k_dr_cloths k_dr_trues k_dr_strengths k_dr_reefs k_dr_cornerNames k_dr_guildNames k_dr_pu k_dr_pu_op k_dr_pu_nu k_dr_pu_st k_dr_ho k_dr_ho_op k_dr_ho_nu k_dr_ho_st k_to k_to_winds k_to_lees k_to_gustChances k_to_gusts k_to_cloths k_to_trues k_to_strengths k_to_reefs k_to_pu k_to_pu_op k_to_pu_nu k_to_pu_st k_to_ho k_to_ho_op k_to_ho_nu k_to_ho_st k_no k_no_or k_no_re k_no_ch k_no_ho k_no_gu k_co k_va k_ou k_tr k_tr_or k_tr_re k_tr_ch k_tr_ho k_tr_gu k_ra k_or_ k_su k_ah k_td k_be k_hi k_sa k_ly k_nu k_si k_s_corners k_s_guilds k_s_wasUp k_s_toldAt k_s_untoldAt k_s_untold k_s_upBehind k_s_fitting k_s_groups k_t2 k_t2_or k_t2_re k_t2_ch k_t2_ho k_t2_gu k_bx k_bf t WC) (hRI : RI g r_h0 r_m_tape r_m_text r_m_corners r_m_guilds r_m_gusts r_m_units r_m_draw r_m_told r_m_wind r_m_lee r_m_gust r_m_blow r_m_cloth r_m_truth r_m_strong r_m_reefTold r_m_ruleFrom r_m_ruleTo r_m_cName r_m_gName r_m_code r_m_codeNumber r_m_eWhat r_m_eSign r_m_pile r_m_all r_m_was r_m_kept r_m_laidRow r_m_fell r_m_good r_m_least r_m_with r_m_upBy r_m_sCorners r_m_sGuild r_m_sIs r_m_sTold r_m_sUntold r_m_parts r_m_boxAll r_m_isBoxed t WR) (hP : va_P g.1 vwCl (WC ++ WR) H) (hD : va_D A (WC ++ WR)) (hS : va_S A s.heap H locs) (hl : lv_has ls 4 [(3, .int (nI i)), (2, .ref r_h0), (1, .ref k_h0), (0, .ref b)])
    (kk : ∀ (H : Heap) (locs : List Loc) (ls : Array Slot) (t : Int32) (WC WR : va_W), CI g k_h0 k_rd k_tk k_tp k_sp k_dr k_dr_winds k_dr_lees k_dr_gustChances k_dr_gusts k_dr_cloths k_dr_trues k_dr_strengths k_dr_reefs k_dr_cornerNames k_dr_guildNames k_dr_pu k_dr_pu_op k_dr_pu_nu k_dr_pu_st k_dr_ho k_dr_ho_op k_dr_ho_nu k_dr_ho_st k_to k_to_winds k_to_lees k_to_gustChances k_to_gusts k_to_cloths k_to_trues k_to_strengths k_to_reefs k_to_pu k_to_pu_op k_to_pu_nu k_to_pu_st k_to_ho k_to_ho_op k_to_ho_nu k_to_ho_st k_no k_no_or k_no_re k_no_ch k_no_ho k_no_gu k_co k_va k_ou k_tr k_tr_or k_tr_re k_tr_ch k_tr_ho k_tr_gu k_ra k_or_ k_su k_ah k_td k_be k_hi k_sa k_ly k_nu k_si k_s_corners k_s_guilds k_s_wasUp k_s_toldAt k_s_untoldAt k_s_untold k_s_upBehind k_s_fitting k_s_groups k_t2 k_t2_or k_t2_re k_t2_ch k_t2_ho k_t2_gu k_bx k_bf t WC → RI g r_h0 r_m_tape r_m_text r_m_corners r_m_guilds r_m_gusts r_m_units r_m_draw r_m_told r_m_wind r_m_lee r_m_gust r_m_blow r_m_cloth r_m_truth r_m_strong r_m_reefTold r_m_ruleFrom r_m_ruleTo r_m_cName r_m_gName r_m_code r_m_codeNumber r_m_eWhat r_m_eSign r_m_pile r_m_all r_m_was r_m_kept r_m_laidRow r_m_fell r_m_good r_m_least r_m_with r_m_upBy r_m_sCorners r_m_sGuild r_m_sIs r_m_sTold r_m_sUntold r_m_parts r_m_boxAll r_m_isBoxed t WR → va_P g.1 vwCl (WC ++ WR) H → va_D A (WC ++ WR) → va_S A s.heap H locs → lv_has ls 4 [(3, .int (nI i)), (2, .ref r_h0), (1, .ref k_h0), (0, .ref b)] → W p l e room_1 s m #[Value.ref b] below meth c H locs nc ns Q (F0 m 1278 ls [])) : W p l e room_1 s m #[Value.ref b] below meth c H locs nc ns Q (F0 m 992 ls []) := by
  obtain ⟨hx, hb, hml, hr, hlocks, hown, hts, hE, hnm⟩ := id hcx
  refine lv_aload_n hx hb dL_law_992 rfl (lv_at hl 2 rfl) ?_
  refine lv_aload_n hx hb dL_law_993 rfl (lv_at hl 3 rfl) ?_
  refine lv_iload_n hx hb dL_law_994 rfl (lv_at hl 0 rfl) ?_
  refine lv_iconst (v := 1) hx hb dL_law_995 (by decide) ?_
  refine lv_iadd hx hb dL_law_996 ?_
  refine lv_tope (y := (nI (i + 1))) (nI_add (i) (1)) ?_
  refine sc_ld hx hb hX hbl hbA hS (i + 1) rfl (by omega) (by omega) dL_law_997 ?_
  refine lk_lies ((xs (i + 1))) hnc hns hcx hA hl.1 hCI hP hD hS (fun r1 WC H locs hCI hP hD hS => ?_)
  refine lv_pop hx hb dL_law_1001 rfl ?_
  refine lv_aload_n hx hb dL_law_1002 rfl (lv_at hl 1 rfl) ?_
  refine lv_aload_n hx hb dL_law_1003 rfl (lv_at hl 3 rfl) ?_
  refine lv_iload_n hx hb dL_law_1004 rfl (lv_at hl 0 rfl) ?_
  refine lv_iconst (v := 1) hx hb dL_law_1005 (by decide) ?_
  refine lv_iadd hx hb dL_law_1006 ?_
  refine lv_tope (y := (nI (i + 1))) (nI_add (i) (1)) ?_
  refine sc_ld hx hb hX hbl hbA hS (i + 1) rfl (by omega) (by omega) dL_law_1007 ?_
  have hP := P_perm hP List.perm_append_comm
  have hD := D_perm hD List.perm_append_comm
  refine lr_lies ((xs (i + 1))) hnc hns hcx hA hl.1 hRI hP hD hS (fun r2 WR H locs hRI hP hD hS => ?_)
  have hP := P_perm hP List.perm_append_comm
  have hD := D_perm hD List.perm_append_comm
  refine lv_pop hx hb dL_law_1011 rfl ?_
  refine lv_goto (tgt := 1278) hx hb dL_law_1012 (by decide) ?_
  exact kk H locs ls t WC WR hCI hRI hP hD hS hl

set_option maxHeartbeats 4000000 in
set_option maxRecDepth 100000 in
theorem lc_33 {p : Program} {l : Launch} {e : Env} {s : State} {m : MethodId} {below : List Frame} {meth : Method} {c : Code} {g : Gx} {b L : Nat} {xs : Nat → Int32} {A : Nat → Prop} {nc ns : Nat} {z : Sg} {Q : State → Prop} {k_h0 k_rd k_tk k_tp k_sp k_dr k_dr_winds k_dr_lees k_dr_gustChances k_dr_gusts k_dr_cloths k_dr_trues k_dr_strengths k_dr_reefs k_dr_cornerNames k_dr_guildNames k_dr_pu k_dr_pu_op k_dr_pu_nu k_dr_pu_st k_dr_ho k_dr_ho_op k_dr_ho_nu k_dr_ho_st k_to k_to_winds k_to_lees k_to_gustChances k_to_gusts k_to_cloths k_to_trues k_to_strengths k_to_reefs k_to_pu k_to_pu_op k_to_pu_nu k_to_pu_st k_to_ho k_to_ho_op k_to_ho_nu k_to_ho_st k_no k_no_or k_no_re k_no_ch k_no_ho k_no_gu k_co k_va k_ou k_tr k_tr_or k_tr_re k_tr_ch k_tr_ho k_tr_gu k_ra k_or_ k_su k_ah k_td k_be k_hi k_sa k_ly k_nu k_si k_s_corners k_s_guilds k_s_wasUp k_s_toldAt k_s_untoldAt k_s_untold k_s_upBehind k_s_fitting k_s_groups k_t2 k_t2_or k_t2_re k_t2_ch k_t2_ho k_t2_gu k_bx k_bf r_h0 r_m_tape r_m_text r_m_corners r_m_guilds r_m_gusts r_m_units r_m_draw r_m_told r_m_wind r_m_lee r_m_gust r_m_blow r_m_cloth r_m_truth r_m_strong r_m_reefTold r_m_ruleFrom r_m_ruleTo r_m_cName r_m_gName r_m_code r_m_codeNumber r_m_eWhat r_m_eSign r_m_pile r_m_all r_m_was r_m_kept r_m_laidRow r_m_fell r_m_good r_m_least r_m_with r_m_upBy r_m_sCorners r_m_sGuild r_m_sIs r_m_sTold r_m_sUntold r_m_parts r_m_boxAll r_m_isBoxed : Nat} {i : Nat} {H : Heap} {locs : List Loc} {ls : Array Slot} {t : Int32} {WC WR : va_W} (hnc : nc ≤ 10000) (hns : ns ≤ 1000000) (hcx : Cx p s m #[Value.ref b] meth c cL_law 4 ret RL meth.name g) (hF : SEg z A s s.heap) (hX : va_X b L xs s s.heap) (hL : L ≤ 3072) (hbl : b < s.heap.size) (hbA : ¬ A b) (hA : ∀ q : Nat, s.heap.size ≤ q → A q) (hi : i + 6 ≤ L) (hCI : CI g k_h0 k_rd k_tk k_tp k_sp k_dr k_dr_winds k_dr_lees k_dr_gustChances k_dr_gusts k_dr_cloths k_dr_trues k_dr_strengths k_dr_reefs k_dr_cornerNames k_dr_guildNames k_dr_pu k_dr_pu_op k_dr_pu_nu k_dr_pu_st k_dr_ho k_dr_ho_op k_dr_ho_nu k_dr_ho_st k_to k_to_winds k_to_lees k_to_gustChances k_to_gusts k_to_cloths k_to_trues k_to_strengths k_to_reefs k_to_pu k_to_pu_op k_to_pu_nu k_to_pu_st k_to_ho k_to_ho_op k_to_ho_nu k_to_ho_st k_no k_no_or k_no_re k_no_ch k_no_ho k_no_gu k_co k_va k_ou k_tr k_tr_or k_tr_re k_tr_ch k_tr_ho k_tr_gu k_ra k_or_ k_su k_ah k_td k_be k_hi k_sa k_ly k_nu k_si k_s_corners k_s_guilds k_s_wasUp k_s_toldAt k_s_untoldAt k_s_untold k_s_upBehind k_s_fitting k_s_groups k_t2 k_t2_or k_t2_re k_t2_ch k_t2_ho k_t2_gu k_bx k_bf t WC) (hRI : RI g r_h0 r_m_tape r_m_text r_m_corners r_m_guilds r_m_gusts r_m_units r_m_draw r_m_told r_m_wind r_m_lee r_m_gust r_m_blow r_m_cloth r_m_truth r_m_strong r_m_reefTold r_m_ruleFrom r_m_ruleTo r_m_cName r_m_gName r_m_code r_m_codeNumber r_m_eWhat r_m_eSign r_m_pile r_m_all r_m_was r_m_kept r_m_laidRow r_m_fell r_m_good r_m_least r_m_with r_m_upBy r_m_sCorners r_m_sGuild r_m_sIs r_m_sTold r_m_sUntold r_m_parts r_m_boxAll r_m_isBoxed t WR) (hP : va_P g.1 vwCl (WC ++ WR) H) (hD : va_D A (WC ++ WR)) (hS : va_S A s.heap H locs) (hl : lv_has ls 4 [(3, .int (nI i)), (2, .ref r_h0), (1, .ref k_h0), (0, .ref b)])
    (kk : ∀ (H : Heap) (locs : List Loc) (ls : Array Slot) (t : Int32) (WC WR : va_W), CI g k_h0 k_rd k_tk k_tp k_sp k_dr k_dr_winds k_dr_lees k_dr_gustChances k_dr_gusts k_dr_cloths k_dr_trues k_dr_strengths k_dr_reefs k_dr_cornerNames k_dr_guildNames k_dr_pu k_dr_pu_op k_dr_pu_nu k_dr_pu_st k_dr_ho k_dr_ho_op k_dr_ho_nu k_dr_ho_st k_to k_to_winds k_to_lees k_to_gustChances k_to_gusts k_to_cloths k_to_trues k_to_strengths k_to_reefs k_to_pu k_to_pu_op k_to_pu_nu k_to_pu_st k_to_ho k_to_ho_op k_to_ho_nu k_to_ho_st k_no k_no_or k_no_re k_no_ch k_no_ho k_no_gu k_co k_va k_ou k_tr k_tr_or k_tr_re k_tr_ch k_tr_ho k_tr_gu k_ra k_or_ k_su k_ah k_td k_be k_hi k_sa k_ly k_nu k_si k_s_corners k_s_guilds k_s_wasUp k_s_toldAt k_s_untoldAt k_s_untold k_s_upBehind k_s_fitting k_s_groups k_t2 k_t2_or k_t2_re k_t2_ch k_t2_ho k_t2_gu k_bx k_bf t WC → RI g r_h0 r_m_tape r_m_text r_m_corners r_m_guilds r_m_gusts r_m_units r_m_draw r_m_told r_m_wind r_m_lee r_m_gust r_m_blow r_m_cloth r_m_truth r_m_strong r_m_reefTold r_m_ruleFrom r_m_ruleTo r_m_cName r_m_gName r_m_code r_m_codeNumber r_m_eWhat r_m_eSign r_m_pile r_m_all r_m_was r_m_kept r_m_laidRow r_m_fell r_m_good r_m_least r_m_with r_m_upBy r_m_sCorners r_m_sGuild r_m_sIs r_m_sTold r_m_sUntold r_m_parts r_m_boxAll r_m_isBoxed t WR → va_P g.1 vwCl (WC ++ WR) H → va_D A (WC ++ WR) → va_S A s.heap H locs → lv_has ls 4 [(3, .int (nI i)), (2, .ref r_h0), (1, .ref k_h0), (0, .ref b)] → W p l e room_1 s m #[Value.ref b] below meth c H locs nc ns Q (F0 m 1278 ls [])) : W p l e room_1 s m #[Value.ref b] below meth c H locs nc ns Q (F0 m 1015 ls []) := by
  obtain ⟨hx, hb, hml, hr, hlocks, hown, hts, hE, hnm⟩ := id hcx
  refine lv_aload_n hx hb dL_law_1015 rfl (lv_at hl 2 rfl) ?_
  refine lv_aload_n hx hb dL_law_1016 rfl (lv_at hl 3 rfl) ?_
  refine lv_iload_n hx hb dL_law_1017 rfl (lv_at hl 0 rfl) ?_
  refine lv_iconst (v := 1) hx hb dL_law_1018 (by decide) ?_
  refine lv_iadd hx hb dL_law_1019 ?_
  refine lv_tope (y := (nI (i + 1))) (nI_add (i) (1)) ?_
  refine sc_ld hx hb hX hbl hbA hS (i + 1) rfl (by omega) (by omega) dL_law_1020 ?_
  refine lv_aload_n hx hb dL_law_1021 rfl (lv_at hl 3 rfl) ?_
  refine lv_iload_n hx hb dL_law_1022 rfl (lv_at hl 0 rfl) ?_
  refine lv_iconst (v := 2) hx hb dL_law_1023 (by decide) ?_
  refine lv_iadd hx hb dL_law_1024 ?_
  refine lv_tope (y := (nI (i + 2))) (nI_add (i) (2)) ?_
  refine sc_ld hx hb hX hbl hbA hS (i + 2) rfl (by omega) (by omega) dL_law_1025 ?_
  refine lv_aload_n hx hb dL_law_1026 rfl (lv_at hl 3 rfl) ?_
  refine lv_iload_n hx hb dL_law_1027 rfl (lv_at hl 0 rfl) ?_
  refine lv_iconst (v := 3) hx hb dL_law_1028 (by decide) ?_
  refine lv_iadd hx hb dL_law_1029 ?_
  refine lv_tope (y := (nI (i + 3))) (nI_add (i) (3)) ?_
  refine sc_ld hx hb hX hbl hbA hS (i + 3) rfl (by omega) (by omega) dL_law_1030 ?_
  refine lv_if_eq (tgt := 1038) hx hb dL_law_1031 (by decide) (fun c1 => ?_) (fun c1 => ?_)
  · refine lv_iconst (v := 0) hx hb dL_law_1038 (by decide) ?_
    refine lk_seen ((xs (i + 1))) ((xs (i + 2))) 0 hnc hns hcx hA hl.1 hCI hP hD hS (by decide) (fun r2 WC H locs hCI hP hD hS => ?_)
    refine lv_pop hx hb dL_law_1042 rfl ?_
    refine lv_aload_n hx hb dL_law_1043 rfl (lv_at hl 1 rfl) ?_
    refine lv_aload_n hx hb dL_law_1044 rfl (lv_at hl 3 rfl) ?_
    refine lv_iload_n hx hb dL_law_1045 rfl (lv_at hl 0 rfl) ?_
    refine lv_iconst (v := 1) hx hb dL_law_1046 (by decide) ?_
    refine lv_iadd hx hb dL_law_1047 ?_
    refine lv_tope (y := (nI (i + 1))) (nI_add (i) (1)) ?_
    refine sc_ld hx hb hX hbl hbA hS (i + 1) rfl (by omega) (by omega) dL_law_1048 ?_
    refine lv_aload_n hx hb dL_law_1049 rfl (lv_at hl 3 rfl) ?_
    refine lv_iload_n hx hb dL_law_1050 rfl (lv_at hl 0 rfl) ?_
    refine lv_iconst (v := 2) hx hb dL_law_1051 (by decide) ?_
    refine lv_iadd hx hb dL_law_1052 ?_
    refine lv_tope (y := (nI (i + 2))) (nI_add (i) (2)) ?_
    refine sc_ld hx hb hX hbl hbA hS (i + 2) rfl (by omega) (by omega) dL_law_1053 ?_
    refine lv_aload_n hx hb dL_law_1054 rfl (lv_at hl 3 rfl) ?_
    refine lv_iload_n hx hb dL_law_1055 rfl (lv_at hl 0 rfl) ?_
    refine lv_iconst (v := 3) hx hb dL_law_1056 (by decide) ?_
    refine lv_iadd hx hb dL_law_1057 ?_
    refine lv_tope (y := (nI (i + 3))) (nI_add (i) (3)) ?_
    refine sc_ld hx hb hX hbl hbA hS (i + 3) rfl (by omega) (by omega) dL_law_1058 ?_
    refine lv_if_eq (tgt := 1066) hx hb dL_law_1059 (by decide) (fun _ => ?_) (fun c3 => absurd c1 c3)
    refine lv_iconst (v := 0) hx hb dL_law_1066 (by decide) ?_
    have hP := P_perm hP List.perm_append_comm
    have hD := D_perm hD List.perm_append_comm
    refine lr_seen ((xs (i + 1))) ((xs (i + 2))) 0 hnc hns hcx hA hl.1 hRI hP hD hS (by decide) (fun r4 WR H locs hRI hP hD hS => ?_)
    have hP := P_perm hP List.perm_append_comm
    have hD := D_perm hD List.perm_append_comm
    refine lv_pop hx hb dL_law_1070 rfl ?_
    refine lv_goto (tgt := 1278) hx hb dL_law_1071 (by decide) ?_
    exact kk H locs ls t WC WR hCI hRI hP hD hS hl
  · refine lv_iconst (v := 1) hx hb dL_law_1034 (by decide) ?_
    refine lv_goto (tgt := 1039) hx hb dL_law_1035 (by decide) ?_
    refine lk_seen ((xs (i + 1))) ((xs (i + 2))) 1 hnc hns hcx hA hl.1 hCI hP hD hS (by decide) (fun r5 WC H locs hCI hP hD hS => ?_)
    refine lv_pop hx hb dL_law_1042 rfl ?_
    refine lv_aload_n hx hb dL_law_1043 rfl (lv_at hl 1 rfl) ?_
    refine lv_aload_n hx hb dL_law_1044 rfl (lv_at hl 3 rfl) ?_
    refine lv_iload_n hx hb dL_law_1045 rfl (lv_at hl 0 rfl) ?_
    refine lv_iconst (v := 1) hx hb dL_law_1046 (by decide) ?_
    refine lv_iadd hx hb dL_law_1047 ?_
    refine lv_tope (y := (nI (i + 1))) (nI_add (i) (1)) ?_
    refine sc_ld hx hb hX hbl hbA hS (i + 1) rfl (by omega) (by omega) dL_law_1048 ?_
    refine lv_aload_n hx hb dL_law_1049 rfl (lv_at hl 3 rfl) ?_
    refine lv_iload_n hx hb dL_law_1050 rfl (lv_at hl 0 rfl) ?_
    refine lv_iconst (v := 2) hx hb dL_law_1051 (by decide) ?_
    refine lv_iadd hx hb dL_law_1052 ?_
    refine lv_tope (y := (nI (i + 2))) (nI_add (i) (2)) ?_
    refine sc_ld hx hb hX hbl hbA hS (i + 2) rfl (by omega) (by omega) dL_law_1053 ?_
    refine lv_aload_n hx hb dL_law_1054 rfl (lv_at hl 3 rfl) ?_
    refine lv_iload_n hx hb dL_law_1055 rfl (lv_at hl 0 rfl) ?_
    refine lv_iconst (v := 3) hx hb dL_law_1056 (by decide) ?_
    refine lv_iadd hx hb dL_law_1057 ?_
    refine lv_tope (y := (nI (i + 3))) (nI_add (i) (3)) ?_
    refine sc_ld hx hb hX hbl hbA hS (i + 3) rfl (by omega) (by omega) dL_law_1058 ?_
    refine lv_if_eq (tgt := 1066) hx hb dL_law_1059 (by decide) (fun c6 => absurd c6 c1) (fun _ => ?_)
    refine lv_iconst (v := 1) hx hb dL_law_1062 (by decide) ?_
    refine lv_goto (tgt := 1067) hx hb dL_law_1063 (by decide) ?_
    have hP := P_perm hP List.perm_append_comm
    have hD := D_perm hD List.perm_append_comm
    refine lr_seen ((xs (i + 1))) ((xs (i + 2))) 1 hnc hns hcx hA hl.1 hRI hP hD hS (by decide) (fun r7 WR H locs hRI hP hD hS => ?_)
    have hP := P_perm hP List.perm_append_comm
    have hD := D_perm hD List.perm_append_comm
    refine lv_pop hx hb dL_law_1070 rfl ?_
    refine lv_goto (tgt := 1278) hx hb dL_law_1071 (by decide) ?_
    exact kk H locs ls t WC WR hCI hRI hP hD hS hl

set_option maxHeartbeats 4000000 in
set_option maxRecDepth 100000 in
theorem lc_34 {p : Program} {l : Launch} {e : Env} {s : State} {m : MethodId} {below : List Frame} {meth : Method} {c : Code} {g : Gx} {b L : Nat} {xs : Nat → Int32} {A : Nat → Prop} {nc ns : Nat} {z : Sg} {Q : State → Prop} {k_h0 k_rd k_tk k_tp k_sp k_dr k_dr_winds k_dr_lees k_dr_gustChances k_dr_gusts k_dr_cloths k_dr_trues k_dr_strengths k_dr_reefs k_dr_cornerNames k_dr_guildNames k_dr_pu k_dr_pu_op k_dr_pu_nu k_dr_pu_st k_dr_ho k_dr_ho_op k_dr_ho_nu k_dr_ho_st k_to k_to_winds k_to_lees k_to_gustChances k_to_gusts k_to_cloths k_to_trues k_to_strengths k_to_reefs k_to_pu k_to_pu_op k_to_pu_nu k_to_pu_st k_to_ho k_to_ho_op k_to_ho_nu k_to_ho_st k_no k_no_or k_no_re k_no_ch k_no_ho k_no_gu k_co k_va k_ou k_tr k_tr_or k_tr_re k_tr_ch k_tr_ho k_tr_gu k_ra k_or_ k_su k_ah k_td k_be k_hi k_sa k_ly k_nu k_si k_s_corners k_s_guilds k_s_wasUp k_s_toldAt k_s_untoldAt k_s_untold k_s_upBehind k_s_fitting k_s_groups k_t2 k_t2_or k_t2_re k_t2_ch k_t2_ho k_t2_gu k_bx k_bf r_h0 r_m_tape r_m_text r_m_corners r_m_guilds r_m_gusts r_m_units r_m_draw r_m_told r_m_wind r_m_lee r_m_gust r_m_blow r_m_cloth r_m_truth r_m_strong r_m_reefTold r_m_ruleFrom r_m_ruleTo r_m_cName r_m_gName r_m_code r_m_codeNumber r_m_eWhat r_m_eSign r_m_pile r_m_all r_m_was r_m_kept r_m_laidRow r_m_fell r_m_good r_m_least r_m_with r_m_upBy r_m_sCorners r_m_sGuild r_m_sIs r_m_sTold r_m_sUntold r_m_parts r_m_boxAll r_m_isBoxed : Nat} {i : Nat} {H : Heap} {locs : List Loc} {ls : Array Slot} {t : Int32} {WC WR : va_W} (hnc : nc ≤ 10000) (hns : ns ≤ 1000000) (hcx : Cx p s m #[Value.ref b] meth c cL_law 4 ret RL meth.name g) (hF : SEg z A s s.heap) (hX : va_X b L xs s s.heap) (hL : L ≤ 3072) (hbl : b < s.heap.size) (hbA : ¬ A b) (hA : ∀ q : Nat, s.heap.size ≤ q → A q) (hi : i + 6 ≤ L) (hCI : CI g k_h0 k_rd k_tk k_tp k_sp k_dr k_dr_winds k_dr_lees k_dr_gustChances k_dr_gusts k_dr_cloths k_dr_trues k_dr_strengths k_dr_reefs k_dr_cornerNames k_dr_guildNames k_dr_pu k_dr_pu_op k_dr_pu_nu k_dr_pu_st k_dr_ho k_dr_ho_op k_dr_ho_nu k_dr_ho_st k_to k_to_winds k_to_lees k_to_gustChances k_to_gusts k_to_cloths k_to_trues k_to_strengths k_to_reefs k_to_pu k_to_pu_op k_to_pu_nu k_to_pu_st k_to_ho k_to_ho_op k_to_ho_nu k_to_ho_st k_no k_no_or k_no_re k_no_ch k_no_ho k_no_gu k_co k_va k_ou k_tr k_tr_or k_tr_re k_tr_ch k_tr_ho k_tr_gu k_ra k_or_ k_su k_ah k_td k_be k_hi k_sa k_ly k_nu k_si k_s_corners k_s_guilds k_s_wasUp k_s_toldAt k_s_untoldAt k_s_untold k_s_upBehind k_s_fitting k_s_groups k_t2 k_t2_or k_t2_re k_t2_ch k_t2_ho k_t2_gu k_bx k_bf t WC) (hRI : RI g r_h0 r_m_tape r_m_text r_m_corners r_m_guilds r_m_gusts r_m_units r_m_draw r_m_told r_m_wind r_m_lee r_m_gust r_m_blow r_m_cloth r_m_truth r_m_strong r_m_reefTold r_m_ruleFrom r_m_ruleTo r_m_cName r_m_gName r_m_code r_m_codeNumber r_m_eWhat r_m_eSign r_m_pile r_m_all r_m_was r_m_kept r_m_laidRow r_m_fell r_m_good r_m_least r_m_with r_m_upBy r_m_sCorners r_m_sGuild r_m_sIs r_m_sTold r_m_sUntold r_m_parts r_m_boxAll r_m_isBoxed t WR) (hP : va_P g.1 vwCl (WC ++ WR) H) (hD : va_D A (WC ++ WR)) (hS : va_S A s.heap H locs) (hl : lv_has ls 4 [(3, .int (nI i)), (2, .ref r_h0), (1, .ref k_h0), (0, .ref b)])
    (kk : ∀ (H : Heap) (locs : List Loc) (ls : Array Slot) (t : Int32) (WC WR : va_W), CI g k_h0 k_rd k_tk k_tp k_sp k_dr k_dr_winds k_dr_lees k_dr_gustChances k_dr_gusts k_dr_cloths k_dr_trues k_dr_strengths k_dr_reefs k_dr_cornerNames k_dr_guildNames k_dr_pu k_dr_pu_op k_dr_pu_nu k_dr_pu_st k_dr_ho k_dr_ho_op k_dr_ho_nu k_dr_ho_st k_to k_to_winds k_to_lees k_to_gustChances k_to_gusts k_to_cloths k_to_trues k_to_strengths k_to_reefs k_to_pu k_to_pu_op k_to_pu_nu k_to_pu_st k_to_ho k_to_ho_op k_to_ho_nu k_to_ho_st k_no k_no_or k_no_re k_no_ch k_no_ho k_no_gu k_co k_va k_ou k_tr k_tr_or k_tr_re k_tr_ch k_tr_ho k_tr_gu k_ra k_or_ k_su k_ah k_td k_be k_hi k_sa k_ly k_nu k_si k_s_corners k_s_guilds k_s_wasUp k_s_toldAt k_s_untoldAt k_s_untold k_s_upBehind k_s_fitting k_s_groups k_t2 k_t2_or k_t2_re k_t2_ch k_t2_ho k_t2_gu k_bx k_bf t WC → RI g r_h0 r_m_tape r_m_text r_m_corners r_m_guilds r_m_gusts r_m_units r_m_draw r_m_told r_m_wind r_m_lee r_m_gust r_m_blow r_m_cloth r_m_truth r_m_strong r_m_reefTold r_m_ruleFrom r_m_ruleTo r_m_cName r_m_gName r_m_code r_m_codeNumber r_m_eWhat r_m_eSign r_m_pile r_m_all r_m_was r_m_kept r_m_laidRow r_m_fell r_m_good r_m_least r_m_with r_m_upBy r_m_sCorners r_m_sGuild r_m_sIs r_m_sTold r_m_sUntold r_m_parts r_m_boxAll r_m_isBoxed t WR → va_P g.1 vwCl (WC ++ WR) H → va_D A (WC ++ WR) → va_S A s.heap H locs → lv_has ls 4 [(3, .int (nI i)), (2, .ref r_h0), (1, .ref k_h0), (0, .ref b)] → W p l e room_1 s m #[Value.ref b] below meth c H locs nc ns Q (F0 m 1278 ls [])) : W p l e room_1 s m #[Value.ref b] below meth c H locs nc ns Q (F0 m 1074 ls []) := by
  obtain ⟨hx, hb, hml, hr, hlocks, hown, hts, hE, hnm⟩ := id hcx
  refine lv_aload_n hx hb dL_law_1074 rfl (lv_at hl 2 rfl) ?_
  refine lv_aload_n hx hb dL_law_1075 rfl (lv_at hl 3 rfl) ?_
  refine lv_iload_n hx hb dL_law_1076 rfl (lv_at hl 0 rfl) ?_
  refine lv_iconst (v := 1) hx hb dL_law_1077 (by decide) ?_
  refine lv_iadd hx hb dL_law_1078 ?_
  refine lv_tope (y := (nI (i + 1))) (nI_add (i) (1)) ?_
  refine sc_ld hx hb hX hbl hbA hS (i + 1) rfl (by omega) (by omega) dL_law_1079 ?_
  refine lk_untell ((xs (i + 1))) hnc hns hcx hA hl.1 hCI hP hD hS (fun r1 WC H locs hCI hP hD hS => ?_)
  refine lv_pop hx hb dL_law_1083 rfl ?_
  refine lv_aload_n hx hb dL_law_1084 rfl (lv_at hl 1 rfl) ?_
  refine lv_aload_n hx hb dL_law_1085 rfl (lv_at hl 3 rfl) ?_
  refine lv_iload_n hx hb dL_law_1086 rfl (lv_at hl 0 rfl) ?_
  refine lv_iconst (v := 1) hx hb dL_law_1087 (by decide) ?_
  refine lv_iadd hx hb dL_law_1088 ?_
  refine lv_tope (y := (nI (i + 1))) (nI_add (i) (1)) ?_
  refine sc_ld hx hb hX hbl hbA hS (i + 1) rfl (by omega) (by omega) dL_law_1089 ?_
  have hP := P_perm hP List.perm_append_comm
  have hD := D_perm hD List.perm_append_comm
  refine lr_untell ((xs (i + 1))) hnc hns hcx hA hl.1 hRI hP hD hS (fun r2 WR H locs hRI hP hD hS => ?_)
  have hP := P_perm hP List.perm_append_comm
  have hD := D_perm hD List.perm_append_comm
  refine lv_pop hx hb dL_law_1093 rfl ?_
  refine lv_goto (tgt := 1278) hx hb dL_law_1094 (by decide) ?_
  exact kk H locs ls t WC WR hCI hRI hP hD hS hl

set_option maxHeartbeats 4000000 in
set_option maxRecDepth 100000 in
theorem lc_35 {p : Program} {l : Launch} {e : Env} {s : State} {m : MethodId} {below : List Frame} {meth : Method} {c : Code} {g : Gx} {b L : Nat} {xs : Nat → Int32} {A : Nat → Prop} {nc ns : Nat} {z : Sg} {Q : State → Prop} {k_h0 k_rd k_tk k_tp k_sp k_dr k_dr_winds k_dr_lees k_dr_gustChances k_dr_gusts k_dr_cloths k_dr_trues k_dr_strengths k_dr_reefs k_dr_cornerNames k_dr_guildNames k_dr_pu k_dr_pu_op k_dr_pu_nu k_dr_pu_st k_dr_ho k_dr_ho_op k_dr_ho_nu k_dr_ho_st k_to k_to_winds k_to_lees k_to_gustChances k_to_gusts k_to_cloths k_to_trues k_to_strengths k_to_reefs k_to_pu k_to_pu_op k_to_pu_nu k_to_pu_st k_to_ho k_to_ho_op k_to_ho_nu k_to_ho_st k_no k_no_or k_no_re k_no_ch k_no_ho k_no_gu k_co k_va k_ou k_tr k_tr_or k_tr_re k_tr_ch k_tr_ho k_tr_gu k_ra k_or_ k_su k_ah k_td k_be k_hi k_sa k_ly k_nu k_si k_s_corners k_s_guilds k_s_wasUp k_s_toldAt k_s_untoldAt k_s_untold k_s_upBehind k_s_fitting k_s_groups k_t2 k_t2_or k_t2_re k_t2_ch k_t2_ho k_t2_gu k_bx k_bf r_h0 r_m_tape r_m_text r_m_corners r_m_guilds r_m_gusts r_m_units r_m_draw r_m_told r_m_wind r_m_lee r_m_gust r_m_blow r_m_cloth r_m_truth r_m_strong r_m_reefTold r_m_ruleFrom r_m_ruleTo r_m_cName r_m_gName r_m_code r_m_codeNumber r_m_eWhat r_m_eSign r_m_pile r_m_all r_m_was r_m_kept r_m_laidRow r_m_fell r_m_good r_m_least r_m_with r_m_upBy r_m_sCorners r_m_sGuild r_m_sIs r_m_sTold r_m_sUntold r_m_parts r_m_boxAll r_m_isBoxed : Nat} {i : Nat} {H : Heap} {locs : List Loc} {ls : Array Slot} {t : Int32} {WC WR : va_W} (hnc : nc ≤ 10000) (hns : ns ≤ 1000000) (hcx : Cx p s m #[Value.ref b] meth c cL_law 4 ret RL meth.name g) (hF : SEg z A s s.heap) (hX : va_X b L xs s s.heap) (hL : L ≤ 3072) (hbl : b < s.heap.size) (hbA : ¬ A b) (hA : ∀ q : Nat, s.heap.size ≤ q → A q) (hi : i + 6 ≤ L) (hCI : CI g k_h0 k_rd k_tk k_tp k_sp k_dr k_dr_winds k_dr_lees k_dr_gustChances k_dr_gusts k_dr_cloths k_dr_trues k_dr_strengths k_dr_reefs k_dr_cornerNames k_dr_guildNames k_dr_pu k_dr_pu_op k_dr_pu_nu k_dr_pu_st k_dr_ho k_dr_ho_op k_dr_ho_nu k_dr_ho_st k_to k_to_winds k_to_lees k_to_gustChances k_to_gusts k_to_cloths k_to_trues k_to_strengths k_to_reefs k_to_pu k_to_pu_op k_to_pu_nu k_to_pu_st k_to_ho k_to_ho_op k_to_ho_nu k_to_ho_st k_no k_no_or k_no_re k_no_ch k_no_ho k_no_gu k_co k_va k_ou k_tr k_tr_or k_tr_re k_tr_ch k_tr_ho k_tr_gu k_ra k_or_ k_su k_ah k_td k_be k_hi k_sa k_ly k_nu k_si k_s_corners k_s_guilds k_s_wasUp k_s_toldAt k_s_untoldAt k_s_untold k_s_upBehind k_s_fitting k_s_groups k_t2 k_t2_or k_t2_re k_t2_ch k_t2_ho k_t2_gu k_bx k_bf t WC) (hRI : RI g r_h0 r_m_tape r_m_text r_m_corners r_m_guilds r_m_gusts r_m_units r_m_draw r_m_told r_m_wind r_m_lee r_m_gust r_m_blow r_m_cloth r_m_truth r_m_strong r_m_reefTold r_m_ruleFrom r_m_ruleTo r_m_cName r_m_gName r_m_code r_m_codeNumber r_m_eWhat r_m_eSign r_m_pile r_m_all r_m_was r_m_kept r_m_laidRow r_m_fell r_m_good r_m_least r_m_with r_m_upBy r_m_sCorners r_m_sGuild r_m_sIs r_m_sTold r_m_sUntold r_m_parts r_m_boxAll r_m_isBoxed t WR) (hP : va_P g.1 vwCl (WC ++ WR) H) (hD : va_D A (WC ++ WR)) (hS : va_S A s.heap H locs) (hl : lv_has ls 4 [(3, .int (nI i)), (2, .ref r_h0), (1, .ref k_h0), (0, .ref b)])
    (kk : ∀ (H : Heap) (locs : List Loc) (ls : Array Slot) (t : Int32) (WC WR : va_W), CI g k_h0 k_rd k_tk k_tp k_sp k_dr k_dr_winds k_dr_lees k_dr_gustChances k_dr_gusts k_dr_cloths k_dr_trues k_dr_strengths k_dr_reefs k_dr_cornerNames k_dr_guildNames k_dr_pu k_dr_pu_op k_dr_pu_nu k_dr_pu_st k_dr_ho k_dr_ho_op k_dr_ho_nu k_dr_ho_st k_to k_to_winds k_to_lees k_to_gustChances k_to_gusts k_to_cloths k_to_trues k_to_strengths k_to_reefs k_to_pu k_to_pu_op k_to_pu_nu k_to_pu_st k_to_ho k_to_ho_op k_to_ho_nu k_to_ho_st k_no k_no_or k_no_re k_no_ch k_no_ho k_no_gu k_co k_va k_ou k_tr k_tr_or k_tr_re k_tr_ch k_tr_ho k_tr_gu k_ra k_or_ k_su k_ah k_td k_be k_hi k_sa k_ly k_nu k_si k_s_corners k_s_guilds k_s_wasUp k_s_toldAt k_s_untoldAt k_s_untold k_s_upBehind k_s_fitting k_s_groups k_t2 k_t2_or k_t2_re k_t2_ch k_t2_ho k_t2_gu k_bx k_bf t WC → RI g r_h0 r_m_tape r_m_text r_m_corners r_m_guilds r_m_gusts r_m_units r_m_draw r_m_told r_m_wind r_m_lee r_m_gust r_m_blow r_m_cloth r_m_truth r_m_strong r_m_reefTold r_m_ruleFrom r_m_ruleTo r_m_cName r_m_gName r_m_code r_m_codeNumber r_m_eWhat r_m_eSign r_m_pile r_m_all r_m_was r_m_kept r_m_laidRow r_m_fell r_m_good r_m_least r_m_with r_m_upBy r_m_sCorners r_m_sGuild r_m_sIs r_m_sTold r_m_sUntold r_m_parts r_m_boxAll r_m_isBoxed t WR → va_P g.1 vwCl (WC ++ WR) H → va_D A (WC ++ WR) → va_S A s.heap H locs → lv_has ls 4 [(3, .int (nI i)), (2, .ref r_h0), (1, .ref k_h0), (0, .ref b)] → W p l e room_1 s m #[Value.ref b] below meth c H locs nc ns Q (F0 m 1278 ls [])) : W p l e room_1 s m #[Value.ref b] below meth c H locs nc ns Q (F0 m 1097 ls []) := by
  obtain ⟨hx, hb, hml, hr, hlocks, hown, hts, hE, hnm⟩ := id hcx
  refine lv_aload_n hx hb dL_law_1097 rfl (lv_at hl 2 rfl) ?_
  refine lv_aload_n hx hb dL_law_1098 rfl (lv_at hl 3 rfl) ?_
  refine lv_iload_n hx hb dL_law_1099 rfl (lv_at hl 0 rfl) ?_
  refine lv_iconst (v := 1) hx hb dL_law_1100 (by decide) ?_
  refine lv_iadd hx hb dL_law_1101 ?_
  refine lv_tope (y := (nI (i + 1))) (nI_add (i) (1)) ?_
  refine sc_ld hx hb hX hbl hbA hS (i + 1) rfl (by omega) (by omega) dL_law_1102 ?_
  refine lk_later ((xs (i + 1))) hnc hns hcx hA hl.1 hCI hP hD hS (fun r1 t1 WC H locs hT1 hCI hP hD hS => ?_)
  refine lv_aload_n hx hb dL_law_1106 rfl (lv_at hl 1 rfl) ?_
  refine lv_aload_n hx hb dL_law_1107 rfl (lv_at hl 3 rfl) ?_
  refine lv_iload_n hx hb dL_law_1108 rfl (lv_at hl 0 rfl) ?_
  refine lv_iconst (v := 1) hx hb dL_law_1109 (by decide) ?_
  refine lv_iadd hx hb dL_law_1110 ?_
  refine lv_tope (y := (nI (i + 1))) (nI_add (i) (1)) ?_
  refine sc_ld hx hb hX hbl hbA hS (i + 1) rfl (by omega) (by omega) dL_law_1111 ?_
  have hP := P_perm hP List.perm_append_comm
  have hD := D_perm hD List.perm_append_comm
  refine lr_later2 ((xs (i + 1))) hnc hns hcx hA hl.1 hRI hP hD hS (fun r2 t2 WR H locs hT2 hRI hP hD hS => ?_)
  have hP := P_perm hP List.perm_append_comm
  have hD := D_perm hD List.perm_append_comm
  obtain ⟨eR, eT⟩ := LT_det hT1 hT2
  subst eT
  refine lv_icmp_eq (tgt := 1278) hx hb dL_law_1115 (by decide) (fun _ => ?_) (fun c9 => absurd eR c9)
  exact kk H locs ls _ WC WR hCI hRI hP hD hS hl

set_option maxHeartbeats 4000000 in
set_option maxRecDepth 100000 in
theorem lc_36 {p : Program} {l : Launch} {e : Env} {s : State} {m : MethodId} {below : List Frame} {meth : Method} {c : Code} {g : Gx} {b L : Nat} {xs : Nat → Int32} {A : Nat → Prop} {nc ns : Nat} {z : Sg} {Q : State → Prop} {k_h0 k_rd k_tk k_tp k_sp k_dr k_dr_winds k_dr_lees k_dr_gustChances k_dr_gusts k_dr_cloths k_dr_trues k_dr_strengths k_dr_reefs k_dr_cornerNames k_dr_guildNames k_dr_pu k_dr_pu_op k_dr_pu_nu k_dr_pu_st k_dr_ho k_dr_ho_op k_dr_ho_nu k_dr_ho_st k_to k_to_winds k_to_lees k_to_gustChances k_to_gusts k_to_cloths k_to_trues k_to_strengths k_to_reefs k_to_pu k_to_pu_op k_to_pu_nu k_to_pu_st k_to_ho k_to_ho_op k_to_ho_nu k_to_ho_st k_no k_no_or k_no_re k_no_ch k_no_ho k_no_gu k_co k_va k_ou k_tr k_tr_or k_tr_re k_tr_ch k_tr_ho k_tr_gu k_ra k_or_ k_su k_ah k_td k_be k_hi k_sa k_ly k_nu k_si k_s_corners k_s_guilds k_s_wasUp k_s_toldAt k_s_untoldAt k_s_untold k_s_upBehind k_s_fitting k_s_groups k_t2 k_t2_or k_t2_re k_t2_ch k_t2_ho k_t2_gu k_bx k_bf r_h0 r_m_tape r_m_text r_m_corners r_m_guilds r_m_gusts r_m_units r_m_draw r_m_told r_m_wind r_m_lee r_m_gust r_m_blow r_m_cloth r_m_truth r_m_strong r_m_reefTold r_m_ruleFrom r_m_ruleTo r_m_cName r_m_gName r_m_code r_m_codeNumber r_m_eWhat r_m_eSign r_m_pile r_m_all r_m_was r_m_kept r_m_laidRow r_m_fell r_m_good r_m_least r_m_with r_m_upBy r_m_sCorners r_m_sGuild r_m_sIs r_m_sTold r_m_sUntold r_m_parts r_m_boxAll r_m_isBoxed : Nat} {i : Nat} {H : Heap} {locs : List Loc} {ls : Array Slot} {t : Int32} {WC WR : va_W} (hnc : nc ≤ 10000) (hns : ns ≤ 1000000) (hcx : Cx p s m #[Value.ref b] meth c cL_law 4 ret RL meth.name g) (hF : SEg z A s s.heap) (hX : va_X b L xs s s.heap) (hL : L ≤ 3072) (hbl : b < s.heap.size) (hbA : ¬ A b) (hA : ∀ q : Nat, s.heap.size ≤ q → A q) (hi : i + 6 ≤ L) (hCI : CI g k_h0 k_rd k_tk k_tp k_sp k_dr k_dr_winds k_dr_lees k_dr_gustChances k_dr_gusts k_dr_cloths k_dr_trues k_dr_strengths k_dr_reefs k_dr_cornerNames k_dr_guildNames k_dr_pu k_dr_pu_op k_dr_pu_nu k_dr_pu_st k_dr_ho k_dr_ho_op k_dr_ho_nu k_dr_ho_st k_to k_to_winds k_to_lees k_to_gustChances k_to_gusts k_to_cloths k_to_trues k_to_strengths k_to_reefs k_to_pu k_to_pu_op k_to_pu_nu k_to_pu_st k_to_ho k_to_ho_op k_to_ho_nu k_to_ho_st k_no k_no_or k_no_re k_no_ch k_no_ho k_no_gu k_co k_va k_ou k_tr k_tr_or k_tr_re k_tr_ch k_tr_ho k_tr_gu k_ra k_or_ k_su k_ah k_td k_be k_hi k_sa k_ly k_nu k_si k_s_corners k_s_guilds k_s_wasUp k_s_toldAt k_s_untoldAt k_s_untold k_s_upBehind k_s_fitting k_s_groups k_t2 k_t2_or k_t2_re k_t2_ch k_t2_ho k_t2_gu k_bx k_bf t WC) (hRI : RI g r_h0 r_m_tape r_m_text r_m_corners r_m_guilds r_m_gusts r_m_units r_m_draw r_m_told r_m_wind r_m_lee r_m_gust r_m_blow r_m_cloth r_m_truth r_m_strong r_m_reefTold r_m_ruleFrom r_m_ruleTo r_m_cName r_m_gName r_m_code r_m_codeNumber r_m_eWhat r_m_eSign r_m_pile r_m_all r_m_was r_m_kept r_m_laidRow r_m_fell r_m_good r_m_least r_m_with r_m_upBy r_m_sCorners r_m_sGuild r_m_sIs r_m_sTold r_m_sUntold r_m_parts r_m_boxAll r_m_isBoxed t WR) (hP : va_P g.1 vwCl (WC ++ WR) H) (hD : va_D A (WC ++ WR)) (hS : va_S A s.heap H locs) (hl : lv_has ls 4 [(3, .int (nI i)), (2, .ref r_h0), (1, .ref k_h0), (0, .ref b)])
    (kk : ∀ (H : Heap) (locs : List Loc) (ls : Array Slot) (t : Int32) (WC WR : va_W), CI g k_h0 k_rd k_tk k_tp k_sp k_dr k_dr_winds k_dr_lees k_dr_gustChances k_dr_gusts k_dr_cloths k_dr_trues k_dr_strengths k_dr_reefs k_dr_cornerNames k_dr_guildNames k_dr_pu k_dr_pu_op k_dr_pu_nu k_dr_pu_st k_dr_ho k_dr_ho_op k_dr_ho_nu k_dr_ho_st k_to k_to_winds k_to_lees k_to_gustChances k_to_gusts k_to_cloths k_to_trues k_to_strengths k_to_reefs k_to_pu k_to_pu_op k_to_pu_nu k_to_pu_st k_to_ho k_to_ho_op k_to_ho_nu k_to_ho_st k_no k_no_or k_no_re k_no_ch k_no_ho k_no_gu k_co k_va k_ou k_tr k_tr_or k_tr_re k_tr_ch k_tr_ho k_tr_gu k_ra k_or_ k_su k_ah k_td k_be k_hi k_sa k_ly k_nu k_si k_s_corners k_s_guilds k_s_wasUp k_s_toldAt k_s_untoldAt k_s_untold k_s_upBehind k_s_fitting k_s_groups k_t2 k_t2_or k_t2_re k_t2_ch k_t2_ho k_t2_gu k_bx k_bf t WC → RI g r_h0 r_m_tape r_m_text r_m_corners r_m_guilds r_m_gusts r_m_units r_m_draw r_m_told r_m_wind r_m_lee r_m_gust r_m_blow r_m_cloth r_m_truth r_m_strong r_m_reefTold r_m_ruleFrom r_m_ruleTo r_m_cName r_m_gName r_m_code r_m_codeNumber r_m_eWhat r_m_eSign r_m_pile r_m_all r_m_was r_m_kept r_m_laidRow r_m_fell r_m_good r_m_least r_m_with r_m_upBy r_m_sCorners r_m_sGuild r_m_sIs r_m_sTold r_m_sUntold r_m_parts r_m_boxAll r_m_isBoxed t WR → va_P g.1 vwCl (WC ++ WR) H → va_D A (WC ++ WR) → va_S A s.heap H locs → lv_has ls 4 [(3, .int (nI i)), (2, .ref r_h0), (1, .ref k_h0), (0, .ref b)] → W p l e room_1 s m #[Value.ref b] below meth c H locs nc ns Q (F0 m 1278 ls [])) : W p l e room_1 s m #[Value.ref b] below meth c H locs nc ns Q (F0 m 1120 ls []) := by
  obtain ⟨hx, hb, hml, hr, hlocks, hown, hts, hE, hnm⟩ := id hcx
  refine lv_aload_n hx hb dL_law_1120 rfl (lv_at hl 2 rfl) ?_
  refine lv_aload_n hx hb dL_law_1121 rfl (lv_at hl 3 rfl) ?_
  refine lv_iload_n hx hb dL_law_1122 rfl (lv_at hl 0 rfl) ?_
  refine lv_iconst (v := 1) hx hb dL_law_1123 (by decide) ?_
  refine lv_iadd hx hb dL_law_1124 ?_
  refine lv_tope (y := (nI (i + 1))) (nI_add (i) (1)) ?_
  refine sc_ld hx hb hX hbl hbA hS (i + 1) rfl (by omega) (by omega) dL_law_1125 ?_
  refine lk_fits ((xs (i + 1))) hnc hns hcx hA hl.1 hCI hP hD hS (fun r1 WC H locs hCI hP hD hS => ?_)
  refine lv_pop hx hb dL_law_1129 rfl ?_
  refine lv_aload_n hx hb dL_law_1130 rfl (lv_at hl 1 rfl) ?_
  refine lv_aload_n hx hb dL_law_1131 rfl (lv_at hl 3 rfl) ?_
  refine lv_iload_n hx hb dL_law_1132 rfl (lv_at hl 0 rfl) ?_
  refine lv_iconst (v := 1) hx hb dL_law_1133 (by decide) ?_
  refine lv_iadd hx hb dL_law_1134 ?_
  refine lv_tope (y := (nI (i + 1))) (nI_add (i) (1)) ?_
  refine sc_ld hx hb hX hbl hbA hS (i + 1) rfl (by omega) (by omega) dL_law_1135 ?_
  have hP := P_perm hP List.perm_append_comm
  have hD := D_perm hD List.perm_append_comm
  refine lr_fits ((xs (i + 1))) hnc hns hcx hA hl.1 hRI hP hD hS (fun r2 WR H locs hRI hP hD hS => ?_)
  have hP := P_perm hP List.perm_append_comm
  have hD := D_perm hD List.perm_append_comm
  refine lv_pop hx hb dL_law_1139 rfl ?_
  refine lv_goto (tgt := 1278) hx hb dL_law_1140 (by decide) ?_
  exact kk H locs ls t WC WR hCI hRI hP hD hS hl

set_option maxHeartbeats 4000000 in
set_option maxRecDepth 100000 in
theorem lc_37 {p : Program} {l : Launch} {e : Env} {s : State} {m : MethodId} {below : List Frame} {meth : Method} {c : Code} {g : Gx} {b L : Nat} {xs : Nat → Int32} {A : Nat → Prop} {nc ns : Nat} {z : Sg} {Q : State → Prop} {k_h0 k_rd k_tk k_tp k_sp k_dr k_dr_winds k_dr_lees k_dr_gustChances k_dr_gusts k_dr_cloths k_dr_trues k_dr_strengths k_dr_reefs k_dr_cornerNames k_dr_guildNames k_dr_pu k_dr_pu_op k_dr_pu_nu k_dr_pu_st k_dr_ho k_dr_ho_op k_dr_ho_nu k_dr_ho_st k_to k_to_winds k_to_lees k_to_gustChances k_to_gusts k_to_cloths k_to_trues k_to_strengths k_to_reefs k_to_pu k_to_pu_op k_to_pu_nu k_to_pu_st k_to_ho k_to_ho_op k_to_ho_nu k_to_ho_st k_no k_no_or k_no_re k_no_ch k_no_ho k_no_gu k_co k_va k_ou k_tr k_tr_or k_tr_re k_tr_ch k_tr_ho k_tr_gu k_ra k_or_ k_su k_ah k_td k_be k_hi k_sa k_ly k_nu k_si k_s_corners k_s_guilds k_s_wasUp k_s_toldAt k_s_untoldAt k_s_untold k_s_upBehind k_s_fitting k_s_groups k_t2 k_t2_or k_t2_re k_t2_ch k_t2_ho k_t2_gu k_bx k_bf r_h0 r_m_tape r_m_text r_m_corners r_m_guilds r_m_gusts r_m_units r_m_draw r_m_told r_m_wind r_m_lee r_m_gust r_m_blow r_m_cloth r_m_truth r_m_strong r_m_reefTold r_m_ruleFrom r_m_ruleTo r_m_cName r_m_gName r_m_code r_m_codeNumber r_m_eWhat r_m_eSign r_m_pile r_m_all r_m_was r_m_kept r_m_laidRow r_m_fell r_m_good r_m_least r_m_with r_m_upBy r_m_sCorners r_m_sGuild r_m_sIs r_m_sTold r_m_sUntold r_m_parts r_m_boxAll r_m_isBoxed : Nat} {i : Nat} {H : Heap} {locs : List Loc} {ls : Array Slot} {t : Int32} {WC WR : va_W} (hnc : nc ≤ 10000) (hns : ns ≤ 1000000) (hcx : Cx p s m #[Value.ref b] meth c cL_law 4 ret RL meth.name g) (hF : SEg z A s s.heap) (hX : va_X b L xs s s.heap) (hL : L ≤ 3072) (hbl : b < s.heap.size) (hbA : ¬ A b) (hA : ∀ q : Nat, s.heap.size ≤ q → A q) (hi : i + 6 ≤ L) (hCI : CI g k_h0 k_rd k_tk k_tp k_sp k_dr k_dr_winds k_dr_lees k_dr_gustChances k_dr_gusts k_dr_cloths k_dr_trues k_dr_strengths k_dr_reefs k_dr_cornerNames k_dr_guildNames k_dr_pu k_dr_pu_op k_dr_pu_nu k_dr_pu_st k_dr_ho k_dr_ho_op k_dr_ho_nu k_dr_ho_st k_to k_to_winds k_to_lees k_to_gustChances k_to_gusts k_to_cloths k_to_trues k_to_strengths k_to_reefs k_to_pu k_to_pu_op k_to_pu_nu k_to_pu_st k_to_ho k_to_ho_op k_to_ho_nu k_to_ho_st k_no k_no_or k_no_re k_no_ch k_no_ho k_no_gu k_co k_va k_ou k_tr k_tr_or k_tr_re k_tr_ch k_tr_ho k_tr_gu k_ra k_or_ k_su k_ah k_td k_be k_hi k_sa k_ly k_nu k_si k_s_corners k_s_guilds k_s_wasUp k_s_toldAt k_s_untoldAt k_s_untold k_s_upBehind k_s_fitting k_s_groups k_t2 k_t2_or k_t2_re k_t2_ch k_t2_ho k_t2_gu k_bx k_bf t WC) (hRI : RI g r_h0 r_m_tape r_m_text r_m_corners r_m_guilds r_m_gusts r_m_units r_m_draw r_m_told r_m_wind r_m_lee r_m_gust r_m_blow r_m_cloth r_m_truth r_m_strong r_m_reefTold r_m_ruleFrom r_m_ruleTo r_m_cName r_m_gName r_m_code r_m_codeNumber r_m_eWhat r_m_eSign r_m_pile r_m_all r_m_was r_m_kept r_m_laidRow r_m_fell r_m_good r_m_least r_m_with r_m_upBy r_m_sCorners r_m_sGuild r_m_sIs r_m_sTold r_m_sUntold r_m_parts r_m_boxAll r_m_isBoxed t WR) (hP : va_P g.1 vwCl (WC ++ WR) H) (hD : va_D A (WC ++ WR)) (hS : va_S A s.heap H locs) (hl : lv_has ls 4 [(3, .int (nI i)), (2, .ref r_h0), (1, .ref k_h0), (0, .ref b)])
    (kk : ∀ (H : Heap) (locs : List Loc) (ls : Array Slot) (t : Int32) (WC WR : va_W), CI g k_h0 k_rd k_tk k_tp k_sp k_dr k_dr_winds k_dr_lees k_dr_gustChances k_dr_gusts k_dr_cloths k_dr_trues k_dr_strengths k_dr_reefs k_dr_cornerNames k_dr_guildNames k_dr_pu k_dr_pu_op k_dr_pu_nu k_dr_pu_st k_dr_ho k_dr_ho_op k_dr_ho_nu k_dr_ho_st k_to k_to_winds k_to_lees k_to_gustChances k_to_gusts k_to_cloths k_to_trues k_to_strengths k_to_reefs k_to_pu k_to_pu_op k_to_pu_nu k_to_pu_st k_to_ho k_to_ho_op k_to_ho_nu k_to_ho_st k_no k_no_or k_no_re k_no_ch k_no_ho k_no_gu k_co k_va k_ou k_tr k_tr_or k_tr_re k_tr_ch k_tr_ho k_tr_gu k_ra k_or_ k_su k_ah k_td k_be k_hi k_sa k_ly k_nu k_si k_s_corners k_s_guilds k_s_wasUp k_s_toldAt k_s_untoldAt k_s_untold k_s_upBehind k_s_fitting k_s_groups k_t2 k_t2_or k_t2_re k_t2_ch k_t2_ho k_t2_gu k_bx k_bf t WC → RI g r_h0 r_m_tape r_m_text r_m_corners r_m_guilds r_m_gusts r_m_units r_m_draw r_m_told r_m_wind r_m_lee r_m_gust r_m_blow r_m_cloth r_m_truth r_m_strong r_m_reefTold r_m_ruleFrom r_m_ruleTo r_m_cName r_m_gName r_m_code r_m_codeNumber r_m_eWhat r_m_eSign r_m_pile r_m_all r_m_was r_m_kept r_m_laidRow r_m_fell r_m_good r_m_least r_m_with r_m_upBy r_m_sCorners r_m_sGuild r_m_sIs r_m_sTold r_m_sUntold r_m_parts r_m_boxAll r_m_isBoxed t WR → va_P g.1 vwCl (WC ++ WR) H → va_D A (WC ++ WR) → va_S A s.heap H locs → lv_has ls 4 [(3, .int (nI i)), (2, .ref r_h0), (1, .ref k_h0), (0, .ref b)] → W p l e room_1 s m #[Value.ref b] below meth c H locs nc ns Q (F0 m 1278 ls [])) : W p l e room_1 s m #[Value.ref b] below meth c H locs nc ns Q (F0 m 1143 ls []) := by
  obtain ⟨hx, hb, hml, hr, hlocks, hown, hts, hE, hnm⟩ := id hcx
  refine lv_aload_n hx hb dL_law_1143 rfl (lv_at hl 2 rfl) ?_
  refine lv_aload_n hx hb dL_law_1144 rfl (lv_at hl 3 rfl) ?_
  refine lv_iload_n hx hb dL_law_1145 rfl (lv_at hl 0 rfl) ?_
  refine lv_iconst (v := 1) hx hb dL_law_1146 (by decide) ?_
  refine lv_iadd hx hb dL_law_1147 ?_
  refine lv_tope (y := (nI (i + 1))) (nI_add (i) (1)) ?_
  refine sc_ld hx hb hX hbl hbA hS (i + 1) rfl (by omega) (by omega) dL_law_1148 ?_
  refine lv_aload_n hx hb dL_law_1149 rfl (lv_at hl 3 rfl) ?_
  refine lv_iload_n hx hb dL_law_1150 rfl (lv_at hl 0 rfl) ?_
  refine lv_iconst (v := 2) hx hb dL_law_1151 (by decide) ?_
  refine lv_iadd hx hb dL_law_1152 ?_
  refine lv_tope (y := (nI (i + 2))) (nI_add (i) (2)) ?_
  refine sc_ld hx hb hX hbl hbA hS (i + 2) rfl (by omega) (by omega) dL_law_1153 ?_
  refine lk_sure ((xs (i + 1))) ((xs (i + 2))) hnc hns hcx hA hl.1 hCI hP hD hS (fun r1 WC H locs hCI hP hD hS => ?_)
  refine lv_pop hx hb dL_law_1157 rfl ?_
  refine lv_aload_n hx hb dL_law_1158 rfl (lv_at hl 1 rfl) ?_
  refine lv_aload_n hx hb dL_law_1159 rfl (lv_at hl 3 rfl) ?_
  refine lv_iload_n hx hb dL_law_1160 rfl (lv_at hl 0 rfl) ?_
  refine lv_iconst (v := 1) hx hb dL_law_1161 (by decide) ?_
  refine lv_iadd hx hb dL_law_1162 ?_
  refine lv_tope (y := (nI (i + 1))) (nI_add (i) (1)) ?_
  refine sc_ld hx hb hX hbl hbA hS (i + 1) rfl (by omega) (by omega) dL_law_1163 ?_
  refine lv_aload_n hx hb dL_law_1164 rfl (lv_at hl 3 rfl) ?_
  refine lv_iload_n hx hb dL_law_1165 rfl (lv_at hl 0 rfl) ?_
  refine lv_iconst (v := 2) hx hb dL_law_1166 (by decide) ?_
  refine lv_iadd hx hb dL_law_1167 ?_
  refine lv_tope (y := (nI (i + 2))) (nI_add (i) (2)) ?_
  refine sc_ld hx hb hX hbl hbA hS (i + 2) rfl (by omega) (by omega) dL_law_1168 ?_
  have hP := P_perm hP List.perm_append_comm
  have hD := D_perm hD List.perm_append_comm
  refine lr_sure ((xs (i + 1))) ((xs (i + 2))) hnc hns hcx hA hl.1 hRI hP hD hS (fun r2 WR H locs hRI hP hD hS => ?_)
  have hP := P_perm hP List.perm_append_comm
  have hD := D_perm hD List.perm_append_comm
  refine lv_pop hx hb dL_law_1172 rfl ?_
  refine lv_goto (tgt := 1278) hx hb dL_law_1173 (by decide) ?_
  exact kk H locs ls t WC WR hCI hRI hP hD hS hl

set_option maxHeartbeats 4000000 in
set_option maxRecDepth 100000 in
theorem lc_38 {p : Program} {l : Launch} {e : Env} {s : State} {m : MethodId} {below : List Frame} {meth : Method} {c : Code} {g : Gx} {b L : Nat} {xs : Nat → Int32} {A : Nat → Prop} {nc ns : Nat} {z : Sg} {Q : State → Prop} {k_h0 k_rd k_tk k_tp k_sp k_dr k_dr_winds k_dr_lees k_dr_gustChances k_dr_gusts k_dr_cloths k_dr_trues k_dr_strengths k_dr_reefs k_dr_cornerNames k_dr_guildNames k_dr_pu k_dr_pu_op k_dr_pu_nu k_dr_pu_st k_dr_ho k_dr_ho_op k_dr_ho_nu k_dr_ho_st k_to k_to_winds k_to_lees k_to_gustChances k_to_gusts k_to_cloths k_to_trues k_to_strengths k_to_reefs k_to_pu k_to_pu_op k_to_pu_nu k_to_pu_st k_to_ho k_to_ho_op k_to_ho_nu k_to_ho_st k_no k_no_or k_no_re k_no_ch k_no_ho k_no_gu k_co k_va k_ou k_tr k_tr_or k_tr_re k_tr_ch k_tr_ho k_tr_gu k_ra k_or_ k_su k_ah k_td k_be k_hi k_sa k_ly k_nu k_si k_s_corners k_s_guilds k_s_wasUp k_s_toldAt k_s_untoldAt k_s_untold k_s_upBehind k_s_fitting k_s_groups k_t2 k_t2_or k_t2_re k_t2_ch k_t2_ho k_t2_gu k_bx k_bf r_h0 r_m_tape r_m_text r_m_corners r_m_guilds r_m_gusts r_m_units r_m_draw r_m_told r_m_wind r_m_lee r_m_gust r_m_blow r_m_cloth r_m_truth r_m_strong r_m_reefTold r_m_ruleFrom r_m_ruleTo r_m_cName r_m_gName r_m_code r_m_codeNumber r_m_eWhat r_m_eSign r_m_pile r_m_all r_m_was r_m_kept r_m_laidRow r_m_fell r_m_good r_m_least r_m_with r_m_upBy r_m_sCorners r_m_sGuild r_m_sIs r_m_sTold r_m_sUntold r_m_parts r_m_boxAll r_m_isBoxed : Nat} {i : Nat} {H : Heap} {locs : List Loc} {ls : Array Slot} {t : Int32} {WC WR : va_W} (hnc : nc ≤ 10000) (hns : ns ≤ 1000000) (hcx : Cx p s m #[Value.ref b] meth c cL_law 4 ret RL meth.name g) (hF : SEg z A s s.heap) (hX : va_X b L xs s s.heap) (hL : L ≤ 3072) (hbl : b < s.heap.size) (hbA : ¬ A b) (hA : ∀ q : Nat, s.heap.size ≤ q → A q) (hi : i + 6 ≤ L) (hCI : CI g k_h0 k_rd k_tk k_tp k_sp k_dr k_dr_winds k_dr_lees k_dr_gustChances k_dr_gusts k_dr_cloths k_dr_trues k_dr_strengths k_dr_reefs k_dr_cornerNames k_dr_guildNames k_dr_pu k_dr_pu_op k_dr_pu_nu k_dr_pu_st k_dr_ho k_dr_ho_op k_dr_ho_nu k_dr_ho_st k_to k_to_winds k_to_lees k_to_gustChances k_to_gusts k_to_cloths k_to_trues k_to_strengths k_to_reefs k_to_pu k_to_pu_op k_to_pu_nu k_to_pu_st k_to_ho k_to_ho_op k_to_ho_nu k_to_ho_st k_no k_no_or k_no_re k_no_ch k_no_ho k_no_gu k_co k_va k_ou k_tr k_tr_or k_tr_re k_tr_ch k_tr_ho k_tr_gu k_ra k_or_ k_su k_ah k_td k_be k_hi k_sa k_ly k_nu k_si k_s_corners k_s_guilds k_s_wasUp k_s_toldAt k_s_untoldAt k_s_untold k_s_upBehind k_s_fitting k_s_groups k_t2 k_t2_or k_t2_re k_t2_ch k_t2_ho k_t2_gu k_bx k_bf t WC) (hRI : RI g r_h0 r_m_tape r_m_text r_m_corners r_m_guilds r_m_gusts r_m_units r_m_draw r_m_told r_m_wind r_m_lee r_m_gust r_m_blow r_m_cloth r_m_truth r_m_strong r_m_reefTold r_m_ruleFrom r_m_ruleTo r_m_cName r_m_gName r_m_code r_m_codeNumber r_m_eWhat r_m_eSign r_m_pile r_m_all r_m_was r_m_kept r_m_laidRow r_m_fell r_m_good r_m_least r_m_with r_m_upBy r_m_sCorners r_m_sGuild r_m_sIs r_m_sTold r_m_sUntold r_m_parts r_m_boxAll r_m_isBoxed t WR) (hP : va_P g.1 vwCl (WC ++ WR) H) (hD : va_D A (WC ++ WR)) (hS : va_S A s.heap H locs) (hl : lv_has ls 4 [(3, .int (nI i)), (2, .ref r_h0), (1, .ref k_h0), (0, .ref b)])
    (kk : ∀ (H : Heap) (locs : List Loc) (ls : Array Slot) (t : Int32) (WC WR : va_W), CI g k_h0 k_rd k_tk k_tp k_sp k_dr k_dr_winds k_dr_lees k_dr_gustChances k_dr_gusts k_dr_cloths k_dr_trues k_dr_strengths k_dr_reefs k_dr_cornerNames k_dr_guildNames k_dr_pu k_dr_pu_op k_dr_pu_nu k_dr_pu_st k_dr_ho k_dr_ho_op k_dr_ho_nu k_dr_ho_st k_to k_to_winds k_to_lees k_to_gustChances k_to_gusts k_to_cloths k_to_trues k_to_strengths k_to_reefs k_to_pu k_to_pu_op k_to_pu_nu k_to_pu_st k_to_ho k_to_ho_op k_to_ho_nu k_to_ho_st k_no k_no_or k_no_re k_no_ch k_no_ho k_no_gu k_co k_va k_ou k_tr k_tr_or k_tr_re k_tr_ch k_tr_ho k_tr_gu k_ra k_or_ k_su k_ah k_td k_be k_hi k_sa k_ly k_nu k_si k_s_corners k_s_guilds k_s_wasUp k_s_toldAt k_s_untoldAt k_s_untold k_s_upBehind k_s_fitting k_s_groups k_t2 k_t2_or k_t2_re k_t2_ch k_t2_ho k_t2_gu k_bx k_bf t WC → RI g r_h0 r_m_tape r_m_text r_m_corners r_m_guilds r_m_gusts r_m_units r_m_draw r_m_told r_m_wind r_m_lee r_m_gust r_m_blow r_m_cloth r_m_truth r_m_strong r_m_reefTold r_m_ruleFrom r_m_ruleTo r_m_cName r_m_gName r_m_code r_m_codeNumber r_m_eWhat r_m_eSign r_m_pile r_m_all r_m_was r_m_kept r_m_laidRow r_m_fell r_m_good r_m_least r_m_with r_m_upBy r_m_sCorners r_m_sGuild r_m_sIs r_m_sTold r_m_sUntold r_m_parts r_m_boxAll r_m_isBoxed t WR → va_P g.1 vwCl (WC ++ WR) H → va_D A (WC ++ WR) → va_S A s.heap H locs → lv_has ls 4 [(3, .int (nI i)), (2, .ref r_h0), (1, .ref k_h0), (0, .ref b)] → W p l e room_1 s m #[Value.ref b] below meth c H locs nc ns Q (F0 m 1278 ls [])) : W p l e room_1 s m #[Value.ref b] below meth c H locs nc ns Q (F0 m 1176 ls []) := by
  obtain ⟨hx, hb, hml, hr, hlocks, hown, hts, hE, hnm⟩ := id hcx
  refine lv_aload_n hx hb dL_law_1176 rfl (lv_at hl 2 rfl) ?_
  refine lv_aload_n hx hb dL_law_1177 rfl (lv_at hl 3 rfl) ?_
  refine lv_iload_n hx hb dL_law_1178 rfl (lv_at hl 0 rfl) ?_
  refine lv_iconst (v := 1) hx hb dL_law_1179 (by decide) ?_
  refine lv_iadd hx hb dL_law_1180 ?_
  refine lv_tope (y := (nI (i + 1))) (nI_add (i) (1)) ?_
  refine sc_ld hx hb hX hbl hbA hS (i + 1) rfl (by omega) (by omega) dL_law_1181 ?_
  refine lv_aload_n hx hb dL_law_1182 rfl (lv_at hl 3 rfl) ?_
  refine lv_iload_n hx hb dL_law_1183 rfl (lv_at hl 0 rfl) ?_
  refine lv_iconst (v := 2) hx hb dL_law_1184 (by decide) ?_
  refine lv_iadd hx hb dL_law_1185 ?_
  refine lv_tope (y := (nI (i + 2))) (nI_add (i) (2)) ?_
  refine sc_ld hx hb hX hbl hbA hS (i + 2) rfl (by omega) (by omega) dL_law_1186 ?_
  refine lk_ask ((xs (i + 1))) ((xs (i + 2))) hnc hns hcx hA hl.1 hCI hP hD hS (fun r1 WC H locs hCI hP hD hS => ?_)
  refine lv_pop hx hb dL_law_1190 rfl ?_
  refine lv_aload_n hx hb dL_law_1191 rfl (lv_at hl 1 rfl) ?_
  refine lv_aload_n hx hb dL_law_1192 rfl (lv_at hl 3 rfl) ?_
  refine lv_iload_n hx hb dL_law_1193 rfl (lv_at hl 0 rfl) ?_
  refine lv_iconst (v := 1) hx hb dL_law_1194 (by decide) ?_
  refine lv_iadd hx hb dL_law_1195 ?_
  refine lv_tope (y := (nI (i + 1))) (nI_add (i) (1)) ?_
  refine sc_ld hx hb hX hbl hbA hS (i + 1) rfl (by omega) (by omega) dL_law_1196 ?_
  refine lv_aload_n hx hb dL_law_1197 rfl (lv_at hl 3 rfl) ?_
  refine lv_iload_n hx hb dL_law_1198 rfl (lv_at hl 0 rfl) ?_
  refine lv_iconst (v := 2) hx hb dL_law_1199 (by decide) ?_
  refine lv_iadd hx hb dL_law_1200 ?_
  refine lv_tope (y := (nI (i + 2))) (nI_add (i) (2)) ?_
  refine sc_ld hx hb hX hbl hbA hS (i + 2) rfl (by omega) (by omega) dL_law_1201 ?_
  have hP := P_perm hP List.perm_append_comm
  have hD := D_perm hD List.perm_append_comm
  refine lr_ask ((xs (i + 1))) ((xs (i + 2))) hnc hns hcx hA hl.1 hRI hP hD hS (fun r2 WR H locs hRI hP hD hS => ?_)
  have hP := P_perm hP List.perm_append_comm
  have hD := D_perm hD List.perm_append_comm
  refine lv_pop hx hb dL_law_1205 rfl ?_
  refine lv_goto (tgt := 1278) hx hb dL_law_1206 (by decide) ?_
  exact kk H locs ls t WC WR hCI hRI hP hD hS hl

set_option maxHeartbeats 4000000 in
set_option maxRecDepth 100000 in
theorem lc_39 {p : Program} {l : Launch} {e : Env} {s : State} {m : MethodId} {below : List Frame} {meth : Method} {c : Code} {g : Gx} {b L : Nat} {xs : Nat → Int32} {A : Nat → Prop} {nc ns : Nat} {z : Sg} {Q : State → Prop} {k_h0 k_rd k_tk k_tp k_sp k_dr k_dr_winds k_dr_lees k_dr_gustChances k_dr_gusts k_dr_cloths k_dr_trues k_dr_strengths k_dr_reefs k_dr_cornerNames k_dr_guildNames k_dr_pu k_dr_pu_op k_dr_pu_nu k_dr_pu_st k_dr_ho k_dr_ho_op k_dr_ho_nu k_dr_ho_st k_to k_to_winds k_to_lees k_to_gustChances k_to_gusts k_to_cloths k_to_trues k_to_strengths k_to_reefs k_to_pu k_to_pu_op k_to_pu_nu k_to_pu_st k_to_ho k_to_ho_op k_to_ho_nu k_to_ho_st k_no k_no_or k_no_re k_no_ch k_no_ho k_no_gu k_co k_va k_ou k_tr k_tr_or k_tr_re k_tr_ch k_tr_ho k_tr_gu k_ra k_or_ k_su k_ah k_td k_be k_hi k_sa k_ly k_nu k_si k_s_corners k_s_guilds k_s_wasUp k_s_toldAt k_s_untoldAt k_s_untold k_s_upBehind k_s_fitting k_s_groups k_t2 k_t2_or k_t2_re k_t2_ch k_t2_ho k_t2_gu k_bx k_bf r_h0 r_m_tape r_m_text r_m_corners r_m_guilds r_m_gusts r_m_units r_m_draw r_m_told r_m_wind r_m_lee r_m_gust r_m_blow r_m_cloth r_m_truth r_m_strong r_m_reefTold r_m_ruleFrom r_m_ruleTo r_m_cName r_m_gName r_m_code r_m_codeNumber r_m_eWhat r_m_eSign r_m_pile r_m_all r_m_was r_m_kept r_m_laidRow r_m_fell r_m_good r_m_least r_m_with r_m_upBy r_m_sCorners r_m_sGuild r_m_sIs r_m_sTold r_m_sUntold r_m_parts r_m_boxAll r_m_isBoxed : Nat} {i : Nat} {H : Heap} {locs : List Loc} {ls : Array Slot} {t : Int32} {WC WR : va_W} (hnc : nc ≤ 10000) (hns : ns ≤ 1000000) (hcx : Cx p s m #[Value.ref b] meth c cL_law 4 ret RL meth.name g) (hF : SEg z A s s.heap) (hX : va_X b L xs s s.heap) (hL : L ≤ 3072) (hbl : b < s.heap.size) (hbA : ¬ A b) (hA : ∀ q : Nat, s.heap.size ≤ q → A q) (hi : i + 6 ≤ L) (hCI : CI g k_h0 k_rd k_tk k_tp k_sp k_dr k_dr_winds k_dr_lees k_dr_gustChances k_dr_gusts k_dr_cloths k_dr_trues k_dr_strengths k_dr_reefs k_dr_cornerNames k_dr_guildNames k_dr_pu k_dr_pu_op k_dr_pu_nu k_dr_pu_st k_dr_ho k_dr_ho_op k_dr_ho_nu k_dr_ho_st k_to k_to_winds k_to_lees k_to_gustChances k_to_gusts k_to_cloths k_to_trues k_to_strengths k_to_reefs k_to_pu k_to_pu_op k_to_pu_nu k_to_pu_st k_to_ho k_to_ho_op k_to_ho_nu k_to_ho_st k_no k_no_or k_no_re k_no_ch k_no_ho k_no_gu k_co k_va k_ou k_tr k_tr_or k_tr_re k_tr_ch k_tr_ho k_tr_gu k_ra k_or_ k_su k_ah k_td k_be k_hi k_sa k_ly k_nu k_si k_s_corners k_s_guilds k_s_wasUp k_s_toldAt k_s_untoldAt k_s_untold k_s_upBehind k_s_fitting k_s_groups k_t2 k_t2_or k_t2_re k_t2_ch k_t2_ho k_t2_gu k_bx k_bf t WC) (hRI : RI g r_h0 r_m_tape r_m_text r_m_corners r_m_guilds r_m_gusts r_m_units r_m_draw r_m_told r_m_wind r_m_lee r_m_gust r_m_blow r_m_cloth r_m_truth r_m_strong r_m_reefTold r_m_ruleFrom r_m_ruleTo r_m_cName r_m_gName r_m_code r_m_codeNumber r_m_eWhat r_m_eSign r_m_pile r_m_all r_m_was r_m_kept r_m_laidRow r_m_fell r_m_good r_m_least r_m_with r_m_upBy r_m_sCorners r_m_sGuild r_m_sIs r_m_sTold r_m_sUntold r_m_parts r_m_boxAll r_m_isBoxed t WR) (hP : va_P g.1 vwCl (WC ++ WR) H) (hD : va_D A (WC ++ WR)) (hS : va_S A s.heap H locs) (hl : lv_has ls 4 [(3, .int (nI i)), (2, .ref r_h0), (1, .ref k_h0), (0, .ref b)])
    (kk : ∀ (H : Heap) (locs : List Loc) (ls : Array Slot) (t : Int32) (WC WR : va_W), CI g k_h0 k_rd k_tk k_tp k_sp k_dr k_dr_winds k_dr_lees k_dr_gustChances k_dr_gusts k_dr_cloths k_dr_trues k_dr_strengths k_dr_reefs k_dr_cornerNames k_dr_guildNames k_dr_pu k_dr_pu_op k_dr_pu_nu k_dr_pu_st k_dr_ho k_dr_ho_op k_dr_ho_nu k_dr_ho_st k_to k_to_winds k_to_lees k_to_gustChances k_to_gusts k_to_cloths k_to_trues k_to_strengths k_to_reefs k_to_pu k_to_pu_op k_to_pu_nu k_to_pu_st k_to_ho k_to_ho_op k_to_ho_nu k_to_ho_st k_no k_no_or k_no_re k_no_ch k_no_ho k_no_gu k_co k_va k_ou k_tr k_tr_or k_tr_re k_tr_ch k_tr_ho k_tr_gu k_ra k_or_ k_su k_ah k_td k_be k_hi k_sa k_ly k_nu k_si k_s_corners k_s_guilds k_s_wasUp k_s_toldAt k_s_untoldAt k_s_untold k_s_upBehind k_s_fitting k_s_groups k_t2 k_t2_or k_t2_re k_t2_ch k_t2_ho k_t2_gu k_bx k_bf t WC → RI g r_h0 r_m_tape r_m_text r_m_corners r_m_guilds r_m_gusts r_m_units r_m_draw r_m_told r_m_wind r_m_lee r_m_gust r_m_blow r_m_cloth r_m_truth r_m_strong r_m_reefTold r_m_ruleFrom r_m_ruleTo r_m_cName r_m_gName r_m_code r_m_codeNumber r_m_eWhat r_m_eSign r_m_pile r_m_all r_m_was r_m_kept r_m_laidRow r_m_fell r_m_good r_m_least r_m_with r_m_upBy r_m_sCorners r_m_sGuild r_m_sIs r_m_sTold r_m_sUntold r_m_parts r_m_boxAll r_m_isBoxed t WR → va_P g.1 vwCl (WC ++ WR) H → va_D A (WC ++ WR) → va_S A s.heap H locs → lv_has ls 4 [(3, .int (nI i)), (2, .ref r_h0), (1, .ref k_h0), (0, .ref b)] → W p l e room_1 s m #[Value.ref b] below meth c H locs nc ns Q (F0 m 1278 ls [])) : W p l e room_1 s m #[Value.ref b] below meth c H locs nc ns Q (F0 m 1209 ls []) := by
  obtain ⟨hx, hb, hml, hr, hlocks, hown, hts, hE, hnm⟩ := id hcx
  refine lv_aload_n hx hb dL_law_1209 rfl (lv_at hl 2 rfl) ?_
  refine lv_aload_n hx hb dL_law_1210 rfl (lv_at hl 3 rfl) ?_
  refine lv_iload_n hx hb dL_law_1211 rfl (lv_at hl 0 rfl) ?_
  refine lv_iconst (v := 1) hx hb dL_law_1212 (by decide) ?_
  refine lv_iadd hx hb dL_law_1213 ?_
  refine lv_tope (y := (nI (i + 1))) (nI_add (i) (1)) ?_
  refine sc_ld hx hb hX hbl hbA hS (i + 1) rfl (by omega) (by omega) dL_law_1214 ?_
  refine lk_image ((xs (i + 1))) hnc hns hcx hA hl.1 hCI hP hD hS (fun r1 WC H locs hCI hP hD hS => ?_)
  refine lv_pop hx hb dL_law_1218 rfl ?_
  refine lv_aload_n hx hb dL_law_1219 rfl (lv_at hl 1 rfl) ?_
  refine lv_aload_n hx hb dL_law_1220 rfl (lv_at hl 3 rfl) ?_
  refine lv_iload_n hx hb dL_law_1221 rfl (lv_at hl 0 rfl) ?_
  refine lv_iconst (v := 1) hx hb dL_law_1222 (by decide) ?_
  refine lv_iadd hx hb dL_law_1223 ?_
  refine lv_tope (y := (nI (i + 1))) (nI_add (i) (1)) ?_
  refine sc_ld hx hb hX hbl hbA hS (i + 1) rfl (by omega) (by omega) dL_law_1224 ?_
  have hP := P_perm hP List.perm_append_comm
  have hD := D_perm hD List.perm_append_comm
  refine lr_image ((xs (i + 1))) hnc hns hcx hA hl.1 hRI hP hD hS (fun r2 WR H locs hRI hP hD hS => ?_)
  have hP := P_perm hP List.perm_append_comm
  have hD := D_perm hD List.perm_append_comm
  refine lv_pop hx hb dL_law_1228 rfl ?_
  refine lv_goto (tgt := 1278) hx hb dL_law_1229 (by decide) ?_
  exact kk H locs ls t WC WR hCI hRI hP hD hS hl

set_option maxHeartbeats 4000000 in
set_option maxRecDepth 100000 in
theorem lc_40 {p : Program} {l : Launch} {e : Env} {s : State} {m : MethodId} {below : List Frame} {meth : Method} {c : Code} {g : Gx} {b L : Nat} {xs : Nat → Int32} {A : Nat → Prop} {nc ns : Nat} {z : Sg} {Q : State → Prop} {k_h0 k_rd k_tk k_tp k_sp k_dr k_dr_winds k_dr_lees k_dr_gustChances k_dr_gusts k_dr_cloths k_dr_trues k_dr_strengths k_dr_reefs k_dr_cornerNames k_dr_guildNames k_dr_pu k_dr_pu_op k_dr_pu_nu k_dr_pu_st k_dr_ho k_dr_ho_op k_dr_ho_nu k_dr_ho_st k_to k_to_winds k_to_lees k_to_gustChances k_to_gusts k_to_cloths k_to_trues k_to_strengths k_to_reefs k_to_pu k_to_pu_op k_to_pu_nu k_to_pu_st k_to_ho k_to_ho_op k_to_ho_nu k_to_ho_st k_no k_no_or k_no_re k_no_ch k_no_ho k_no_gu k_co k_va k_ou k_tr k_tr_or k_tr_re k_tr_ch k_tr_ho k_tr_gu k_ra k_or_ k_su k_ah k_td k_be k_hi k_sa k_ly k_nu k_si k_s_corners k_s_guilds k_s_wasUp k_s_toldAt k_s_untoldAt k_s_untold k_s_upBehind k_s_fitting k_s_groups k_t2 k_t2_or k_t2_re k_t2_ch k_t2_ho k_t2_gu k_bx k_bf r_h0 r_m_tape r_m_text r_m_corners r_m_guilds r_m_gusts r_m_units r_m_draw r_m_told r_m_wind r_m_lee r_m_gust r_m_blow r_m_cloth r_m_truth r_m_strong r_m_reefTold r_m_ruleFrom r_m_ruleTo r_m_cName r_m_gName r_m_code r_m_codeNumber r_m_eWhat r_m_eSign r_m_pile r_m_all r_m_was r_m_kept r_m_laidRow r_m_fell r_m_good r_m_least r_m_with r_m_upBy r_m_sCorners r_m_sGuild r_m_sIs r_m_sTold r_m_sUntold r_m_parts r_m_boxAll r_m_isBoxed : Nat} {i : Nat} {H : Heap} {locs : List Loc} {ls : Array Slot} {t : Int32} {WC WR : va_W} (hnc : nc ≤ 10000) (hns : ns ≤ 1000000) (hcx : Cx p s m #[Value.ref b] meth c cL_law 4 ret RL meth.name g) (hF : SEg z A s s.heap) (hX : va_X b L xs s s.heap) (hL : L ≤ 3072) (hbl : b < s.heap.size) (hbA : ¬ A b) (hA : ∀ q : Nat, s.heap.size ≤ q → A q) (hi : i + 6 ≤ L) (hCI : CI g k_h0 k_rd k_tk k_tp k_sp k_dr k_dr_winds k_dr_lees k_dr_gustChances k_dr_gusts k_dr_cloths k_dr_trues k_dr_strengths k_dr_reefs k_dr_cornerNames k_dr_guildNames k_dr_pu k_dr_pu_op k_dr_pu_nu k_dr_pu_st k_dr_ho k_dr_ho_op k_dr_ho_nu k_dr_ho_st k_to k_to_winds k_to_lees k_to_gustChances k_to_gusts k_to_cloths k_to_trues k_to_strengths k_to_reefs k_to_pu k_to_pu_op k_to_pu_nu k_to_pu_st k_to_ho k_to_ho_op k_to_ho_nu k_to_ho_st k_no k_no_or k_no_re k_no_ch k_no_ho k_no_gu k_co k_va k_ou k_tr k_tr_or k_tr_re k_tr_ch k_tr_ho k_tr_gu k_ra k_or_ k_su k_ah k_td k_be k_hi k_sa k_ly k_nu k_si k_s_corners k_s_guilds k_s_wasUp k_s_toldAt k_s_untoldAt k_s_untold k_s_upBehind k_s_fitting k_s_groups k_t2 k_t2_or k_t2_re k_t2_ch k_t2_ho k_t2_gu k_bx k_bf t WC) (hRI : RI g r_h0 r_m_tape r_m_text r_m_corners r_m_guilds r_m_gusts r_m_units r_m_draw r_m_told r_m_wind r_m_lee r_m_gust r_m_blow r_m_cloth r_m_truth r_m_strong r_m_reefTold r_m_ruleFrom r_m_ruleTo r_m_cName r_m_gName r_m_code r_m_codeNumber r_m_eWhat r_m_eSign r_m_pile r_m_all r_m_was r_m_kept r_m_laidRow r_m_fell r_m_good r_m_least r_m_with r_m_upBy r_m_sCorners r_m_sGuild r_m_sIs r_m_sTold r_m_sUntold r_m_parts r_m_boxAll r_m_isBoxed t WR) (hP : va_P g.1 vwCl (WC ++ WR) H) (hD : va_D A (WC ++ WR)) (hS : va_S A s.heap H locs) (hl : lv_has ls 4 [(3, .int (nI i)), (2, .ref r_h0), (1, .ref k_h0), (0, .ref b)])
    (kk : ∀ (H : Heap) (locs : List Loc) (ls : Array Slot) (t : Int32) (WC WR : va_W), CI g k_h0 k_rd k_tk k_tp k_sp k_dr k_dr_winds k_dr_lees k_dr_gustChances k_dr_gusts k_dr_cloths k_dr_trues k_dr_strengths k_dr_reefs k_dr_cornerNames k_dr_guildNames k_dr_pu k_dr_pu_op k_dr_pu_nu k_dr_pu_st k_dr_ho k_dr_ho_op k_dr_ho_nu k_dr_ho_st k_to k_to_winds k_to_lees k_to_gustChances k_to_gusts k_to_cloths k_to_trues k_to_strengths k_to_reefs k_to_pu k_to_pu_op k_to_pu_nu k_to_pu_st k_to_ho k_to_ho_op k_to_ho_nu k_to_ho_st k_no k_no_or k_no_re k_no_ch k_no_ho k_no_gu k_co k_va k_ou k_tr k_tr_or k_tr_re k_tr_ch k_tr_ho k_tr_gu k_ra k_or_ k_su k_ah k_td k_be k_hi k_sa k_ly k_nu k_si k_s_corners k_s_guilds k_s_wasUp k_s_toldAt k_s_untoldAt k_s_untold k_s_upBehind k_s_fitting k_s_groups k_t2 k_t2_or k_t2_re k_t2_ch k_t2_ho k_t2_gu k_bx k_bf t WC → RI g r_h0 r_m_tape r_m_text r_m_corners r_m_guilds r_m_gusts r_m_units r_m_draw r_m_told r_m_wind r_m_lee r_m_gust r_m_blow r_m_cloth r_m_truth r_m_strong r_m_reefTold r_m_ruleFrom r_m_ruleTo r_m_cName r_m_gName r_m_code r_m_codeNumber r_m_eWhat r_m_eSign r_m_pile r_m_all r_m_was r_m_kept r_m_laidRow r_m_fell r_m_good r_m_least r_m_with r_m_upBy r_m_sCorners r_m_sGuild r_m_sIs r_m_sTold r_m_sUntold r_m_parts r_m_boxAll r_m_isBoxed t WR → va_P g.1 vwCl (WC ++ WR) H → va_D A (WC ++ WR) → va_S A s.heap H locs → lv_has ls 4 [(3, .int (nI i)), (2, .ref r_h0), (1, .ref k_h0), (0, .ref b)] → W p l e room_1 s m #[Value.ref b] below meth c H locs nc ns Q (F0 m 1278 ls [])) : W p l e room_1 s m #[Value.ref b] below meth c H locs nc ns Q (F0 m 1232 ls []) := by
  obtain ⟨hx, hb, hml, hr, hlocks, hown, hts, hE, hnm⟩ := id hcx
  refine lv_aload_n hx hb dL_law_1232 rfl (lv_at hl 2 rfl) ?_
  refine lv_aload_n hx hb dL_law_1233 rfl (lv_at hl 3 rfl) ?_
  refine lv_iload_n hx hb dL_law_1234 rfl (lv_at hl 0 rfl) ?_
  refine lv_iconst (v := 1) hx hb dL_law_1235 (by decide) ?_
  refine lv_iadd hx hb dL_law_1236 ?_
  refine lv_tope (y := (nI (i + 1))) (nI_add (i) (1)) ?_
  refine sc_ld hx hb hX hbl hbA hS (i + 1) rfl (by omega) (by omega) dL_law_1237 ?_
  refine lk_back ((xs (i + 1))) hnc hns hcx hA hl.1 hCI hP hD hS (fun r1 WC H locs hCI hP hD hS => ?_)
  refine lv_pop hx hb dL_law_1241 rfl ?_
  refine lv_aload_n hx hb dL_law_1242 rfl (lv_at hl 1 rfl) ?_
  refine lv_aload_n hx hb dL_law_1243 rfl (lv_at hl 3 rfl) ?_
  refine lv_iload_n hx hb dL_law_1244 rfl (lv_at hl 0 rfl) ?_
  refine lv_iconst (v := 1) hx hb dL_law_1245 (by decide) ?_
  refine lv_iadd hx hb dL_law_1246 ?_
  refine lv_tope (y := (nI (i + 1))) (nI_add (i) (1)) ?_
  refine sc_ld hx hb hX hbl hbA hS (i + 1) rfl (by omega) (by omega) dL_law_1247 ?_
  have hP := P_perm hP List.perm_append_comm
  have hD := D_perm hD List.perm_append_comm
  refine lr_back ((xs (i + 1))) hnc hns hcx hA hl.1 hRI hP hD hS (fun r2 WR H locs hRI hP hD hS => ?_)
  have hP := P_perm hP List.perm_append_comm
  have hD := D_perm hD List.perm_append_comm
  refine lv_pop hx hb dL_law_1251 rfl ?_
  refine lv_goto (tgt := 1278) hx hb dL_law_1252 (by decide) ?_
  exact kk H locs ls t WC WR hCI hRI hP hD hS hl

set_option maxHeartbeats 4000000 in
set_option maxRecDepth 100000 in
theorem lc_41 {p : Program} {l : Launch} {e : Env} {s : State} {m : MethodId} {below : List Frame} {meth : Method} {c : Code} {g : Gx} {b L : Nat} {xs : Nat → Int32} {A : Nat → Prop} {nc ns : Nat} {z : Sg} {Q : State → Prop} {k_h0 k_rd k_tk k_tp k_sp k_dr k_dr_winds k_dr_lees k_dr_gustChances k_dr_gusts k_dr_cloths k_dr_trues k_dr_strengths k_dr_reefs k_dr_cornerNames k_dr_guildNames k_dr_pu k_dr_pu_op k_dr_pu_nu k_dr_pu_st k_dr_ho k_dr_ho_op k_dr_ho_nu k_dr_ho_st k_to k_to_winds k_to_lees k_to_gustChances k_to_gusts k_to_cloths k_to_trues k_to_strengths k_to_reefs k_to_pu k_to_pu_op k_to_pu_nu k_to_pu_st k_to_ho k_to_ho_op k_to_ho_nu k_to_ho_st k_no k_no_or k_no_re k_no_ch k_no_ho k_no_gu k_co k_va k_ou k_tr k_tr_or k_tr_re k_tr_ch k_tr_ho k_tr_gu k_ra k_or_ k_su k_ah k_td k_be k_hi k_sa k_ly k_nu k_si k_s_corners k_s_guilds k_s_wasUp k_s_toldAt k_s_untoldAt k_s_untold k_s_upBehind k_s_fitting k_s_groups k_t2 k_t2_or k_t2_re k_t2_ch k_t2_ho k_t2_gu k_bx k_bf r_h0 r_m_tape r_m_text r_m_corners r_m_guilds r_m_gusts r_m_units r_m_draw r_m_told r_m_wind r_m_lee r_m_gust r_m_blow r_m_cloth r_m_truth r_m_strong r_m_reefTold r_m_ruleFrom r_m_ruleTo r_m_cName r_m_gName r_m_code r_m_codeNumber r_m_eWhat r_m_eSign r_m_pile r_m_all r_m_was r_m_kept r_m_laidRow r_m_fell r_m_good r_m_least r_m_with r_m_upBy r_m_sCorners r_m_sGuild r_m_sIs r_m_sTold r_m_sUntold r_m_parts r_m_boxAll r_m_isBoxed : Nat} {i : Nat} {H : Heap} {locs : List Loc} {ls : Array Slot} {t : Int32} {WC WR : va_W} (hnc : nc ≤ 10000) (hns : ns ≤ 1000000) (hcx : Cx p s m #[Value.ref b] meth c cL_law 4 ret RL meth.name g) (hF : SEg z A s s.heap) (hX : va_X b L xs s s.heap) (hL : L ≤ 3072) (hbl : b < s.heap.size) (hbA : ¬ A b) (hA : ∀ q : Nat, s.heap.size ≤ q → A q) (hi : i + 6 ≤ L) (hCI : CI g k_h0 k_rd k_tk k_tp k_sp k_dr k_dr_winds k_dr_lees k_dr_gustChances k_dr_gusts k_dr_cloths k_dr_trues k_dr_strengths k_dr_reefs k_dr_cornerNames k_dr_guildNames k_dr_pu k_dr_pu_op k_dr_pu_nu k_dr_pu_st k_dr_ho k_dr_ho_op k_dr_ho_nu k_dr_ho_st k_to k_to_winds k_to_lees k_to_gustChances k_to_gusts k_to_cloths k_to_trues k_to_strengths k_to_reefs k_to_pu k_to_pu_op k_to_pu_nu k_to_pu_st k_to_ho k_to_ho_op k_to_ho_nu k_to_ho_st k_no k_no_or k_no_re k_no_ch k_no_ho k_no_gu k_co k_va k_ou k_tr k_tr_or k_tr_re k_tr_ch k_tr_ho k_tr_gu k_ra k_or_ k_su k_ah k_td k_be k_hi k_sa k_ly k_nu k_si k_s_corners k_s_guilds k_s_wasUp k_s_toldAt k_s_untoldAt k_s_untold k_s_upBehind k_s_fitting k_s_groups k_t2 k_t2_or k_t2_re k_t2_ch k_t2_ho k_t2_gu k_bx k_bf t WC) (hRI : RI g r_h0 r_m_tape r_m_text r_m_corners r_m_guilds r_m_gusts r_m_units r_m_draw r_m_told r_m_wind r_m_lee r_m_gust r_m_blow r_m_cloth r_m_truth r_m_strong r_m_reefTold r_m_ruleFrom r_m_ruleTo r_m_cName r_m_gName r_m_code r_m_codeNumber r_m_eWhat r_m_eSign r_m_pile r_m_all r_m_was r_m_kept r_m_laidRow r_m_fell r_m_good r_m_least r_m_with r_m_upBy r_m_sCorners r_m_sGuild r_m_sIs r_m_sTold r_m_sUntold r_m_parts r_m_boxAll r_m_isBoxed t WR) (hP : va_P g.1 vwCl (WC ++ WR) H) (hD : va_D A (WC ++ WR)) (hS : va_S A s.heap H locs) (hl : lv_has ls 4 [(3, .int (nI i)), (2, .ref r_h0), (1, .ref k_h0), (0, .ref b)])
    (kk : ∀ (H : Heap) (locs : List Loc) (ls : Array Slot) (t : Int32) (WC WR : va_W), CI g k_h0 k_rd k_tk k_tp k_sp k_dr k_dr_winds k_dr_lees k_dr_gustChances k_dr_gusts k_dr_cloths k_dr_trues k_dr_strengths k_dr_reefs k_dr_cornerNames k_dr_guildNames k_dr_pu k_dr_pu_op k_dr_pu_nu k_dr_pu_st k_dr_ho k_dr_ho_op k_dr_ho_nu k_dr_ho_st k_to k_to_winds k_to_lees k_to_gustChances k_to_gusts k_to_cloths k_to_trues k_to_strengths k_to_reefs k_to_pu k_to_pu_op k_to_pu_nu k_to_pu_st k_to_ho k_to_ho_op k_to_ho_nu k_to_ho_st k_no k_no_or k_no_re k_no_ch k_no_ho k_no_gu k_co k_va k_ou k_tr k_tr_or k_tr_re k_tr_ch k_tr_ho k_tr_gu k_ra k_or_ k_su k_ah k_td k_be k_hi k_sa k_ly k_nu k_si k_s_corners k_s_guilds k_s_wasUp k_s_toldAt k_s_untoldAt k_s_untold k_s_upBehind k_s_fitting k_s_groups k_t2 k_t2_or k_t2_re k_t2_ch k_t2_ho k_t2_gu k_bx k_bf t WC → RI g r_h0 r_m_tape r_m_text r_m_corners r_m_guilds r_m_gusts r_m_units r_m_draw r_m_told r_m_wind r_m_lee r_m_gust r_m_blow r_m_cloth r_m_truth r_m_strong r_m_reefTold r_m_ruleFrom r_m_ruleTo r_m_cName r_m_gName r_m_code r_m_codeNumber r_m_eWhat r_m_eSign r_m_pile r_m_all r_m_was r_m_kept r_m_laidRow r_m_fell r_m_good r_m_least r_m_with r_m_upBy r_m_sCorners r_m_sGuild r_m_sIs r_m_sTold r_m_sUntold r_m_parts r_m_boxAll r_m_isBoxed t WR → va_P g.1 vwCl (WC ++ WR) H → va_D A (WC ++ WR) → va_S A s.heap H locs → lv_has ls 4 [(3, .int (nI i)), (2, .ref r_h0), (1, .ref k_h0), (0, .ref b)] → W p l e room_1 s m #[Value.ref b] below meth c H locs nc ns Q (F0 m 1278 ls [])) : W p l e room_1 s m #[Value.ref b] below meth c H locs nc ns Q (F0 m 1255 ls []) := by
  obtain ⟨hx, hb, hml, hr, hlocks, hown, hts, hE, hnm⟩ := id hcx
  refine lv_aload_n hx hb dL_law_1255 rfl (lv_at hl 2 rfl) ?_
  refine lv_aload_n hx hb dL_law_1256 rfl (lv_at hl 3 rfl) ?_
  refine lv_iload_n hx hb dL_law_1257 rfl (lv_at hl 0 rfl) ?_
  refine lv_iconst (v := 1) hx hb dL_law_1258 (by decide) ?_
  refine lv_iadd hx hb dL_law_1259 ?_
  refine lv_tope (y := (nI (i + 1))) (nI_add (i) (1)) ?_
  refine sc_ld hx hb hX hbl hbA hS (i + 1) rfl (by omega) (by omega) dL_law_1260 ?_
  refine lk_about ((xs (i + 1))) hnc hns hcx hA hl.1 hCI hP hD hS (fun r1 WC H locs hCI hP hD hS => ?_)
  refine lv_pop hx hb dL_law_1264 rfl ?_
  refine lv_aload_n hx hb dL_law_1265 rfl (lv_at hl 1 rfl) ?_
  refine lv_aload_n hx hb dL_law_1266 rfl (lv_at hl 3 rfl) ?_
  refine lv_iload_n hx hb dL_law_1267 rfl (lv_at hl 0 rfl) ?_
  refine lv_iconst (v := 1) hx hb dL_law_1268 (by decide) ?_
  refine lv_iadd hx hb dL_law_1269 ?_
  refine lv_tope (y := (nI (i + 1))) (nI_add (i) (1)) ?_
  refine sc_ld hx hb hX hbl hbA hS (i + 1) rfl (by omega) (by omega) dL_law_1270 ?_
  have hP := P_perm hP List.perm_append_comm
  have hD := D_perm hD List.perm_append_comm
  refine lr_about ((xs (i + 1))) hnc hns hcx hA hl.1 hRI hP hD hS (fun r2 WR H locs hRI hP hD hS => ?_)
  have hP := P_perm hP List.perm_append_comm
  have hD := D_perm hD List.perm_append_comm
  refine lv_pop hx hb dL_law_1274 rfl ?_
  refine lv_goto (tgt := 1278) hx hb dL_law_1275 (by decide) ?_
  exact kk H locs ls t WC WR hCI hRI hP hD hS hl
