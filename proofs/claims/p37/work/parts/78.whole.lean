set_option maxHeartbeats 40000000 in
set_option maxRecDepth 100000 in
theorem whole_start {p : Program} {e : Env} {s : State} {m : MethodId} {below : List Frame} {meth : Method} {c : Code} (l : Launch) (hflags : l.flags = flags0) {b L : Nat} {xs : Nat → Int32} (hL : L ≤ 3072) (C0 : lw_At p s m meth c b L xs) : W p l e room_1 s m #[Value.ref b] below meth c s.heap [] 0 0 (lw_Z below #[Value.ref b] s) (entryFrame m ([Value.ref b] : List Value).toArray 4) := by
  obtain ⟨hx, hb, hr, hml, hown, hts0, hX, hbl, hlocks, hgv⟩ := id C0
  obtain ⟨g, hE⟩ := law_ev hts0
  obtain ⟨A, hAe⟩ : ∃ A : Nat → Prop, A = fun q => s.heap.size ≤ q := ⟨_, rfl⟩
  have hA : ∀ q : Nat, s.heap.size ≤ q → A q := fun q h => by rw [hAe]; exact h
  have hAl : ∀ q : Nat, A q → s.heap.size ≤ q := fun q h => by rw [hAe] at h; exact h
  have hbA : ¬ A b := fun h => absurd (hAl b h) (Nat.not_le.mpr hbl)
  obtain ⟨z1, hF1⟩ := law_sf (A := A) hts0 hgv (fun a h1 h2 => absurd (hAl a h2) (Nat.not_le.mpr h1))
  obtain ⟨z, hF⟩ := law_se (A := A) hts0 hgv (fun a h1 h2 => absurd (hAl a h2) (Nat.not_le.mpr h1))
  have hb : c.code = cL_law := hb
  have hown : s.vm.findClass RL = some m.cls := hown
  have hts : ∀ w ∈ wsL_law, w.before #[Value.ref b] s = true := fun w h => hts0 w (wsL_law_in w h)
  have hcx : Cx p s m #[Value.ref b] meth c cL_law 4 ret RL meth.name g := ⟨hx, hb, hml, hr, hlocks, hown, hts, hE, rfl⟩
  have hK := hE.1
  have hl := lv_entry ([.ref b]) (n := 4) (Nat.le_of_ble_eq_true rfl)
  rw [lg_entry_eq]
  generalize (lg_sl ([.ref b]) ++ List.replicate (4 - (lg_sl ([.ref b])).length) Slot.unset).toArray = ls at hl ⊢
  have hl : lv_has ls 4 [(0, .ref b)] := hl
  suffices key : ∀ (H : Heap) (locs : List Loc), va_S A s.heap H locs → va_P g.1 vwCl [] H → va_D A [] → W p l e room_1 s m #[Value.ref b] below meth c H locs 0 0 (lw_Z below #[Value.ref b] s) (F0 m 0 ls []) from key s.heap [] va_S.rf (fun k q h => by simp at h) ⟨fun i j p q h => by simp at h, fun k q h => by simp at h⟩
  intro H locs hS hP hD
  refine va_new (ci := 10) (fs := [.null, .int 0, .null, .null, .null, .null, .null, .null, .null, .null, .null, .null, .null, .int 0]) (C := RX10) (T := TX10) (N := 14) hx hb hts inlX10 tyX10 tyX10_ok hown (hts _ q1_0) (hts _ q1_1) (hts _ q1_2) hK hP hD hS hA rfl (by decide +kernel) (Nat.le_of_ble_eq_true rfl) (Nat.le_of_ble_eq_true rfl) dL_law_0 (fun k_h0 H hP hD hS => ?_)
  have hP : va_P g.1 vwCl ([(k_h0, .inr (10, [.null, .int 0, .null, .null, .null, .null, .null, .null, .null, .null, .null, .null, .null, .int 0]))] ++ []) H := hP
  have hD : va_D A ([(k_h0, .inr (10, [.null, .int 0, .null, .null, .null, .null, .null, .null, .null, .null, .null, .null, .null, .int 0]))] ++ []) := hD
  refine lv_dup hx hb dL_law_3 rfl ?_
  refine kVq (wc := [(k_h0, .inr (10, [.null, .int 0, .null, .null, .null, .null, .null, .null, .null, .null, .null, .null, .null, .int 0]))]) (wr := []) (rNs (As := []) (rest := [.ref k_h0]) hcx hF1 hS (freeQ (ws := []) (wc := [(k_h0, .inr (10, [.null, .int 0, .null, .null, .null, .null, .null, .null, .null, .null, .null, .null, .null, .int 0]))]) hD hS hA [0] rfl) (c_X10_init H.size) (gdC q1_8) q1_2 q1_6 q1_7 rfl dvX10_init.2 ⟨Nat.le_of_ble_eq_true rfl, Nat.le_of_ble_eq_true rfl⟩ (hP.sub [0] rfl) (hD.sub [0] (by decide) rfl) rfl hl.1 rfl (Nat.le_of_ble_eq_true rfl) dL_law_4 ⟨Nat.le_of_ble_eq_true rfl, Nat.le_of_ble_eq_true rfl⟩) hP hD hS hA [0] [] rfl rfl rfl (by decide) (fun W' H locs hw hP hD hS => ?_)
  refine Exists.elim hw ?_; clear hw; intro k_rd hw
  refine Exists.elim hw ?_; clear hw; intro k_tk hw
  refine Exists.elim hw ?_; clear hw; intro k_tp hw
  refine Exists.elim hw ?_; clear hw; intro k_sp hw
  refine Exists.elim hw ?_; clear hw; intro k_dr hw
  refine Exists.elim hw ?_; clear hw; intro k_dr_winds hw
  refine Exists.elim hw ?_; clear hw; intro k_dr_lees hw
  refine Exists.elim hw ?_; clear hw; intro k_dr_gustChances hw
  refine Exists.elim hw ?_; clear hw; intro k_dr_gusts hw
  refine Exists.elim hw ?_; clear hw; intro k_dr_cloths hw
  refine Exists.elim hw ?_; clear hw; intro k_dr_trues hw
  refine Exists.elim hw ?_; clear hw; intro k_dr_strengths hw
  refine Exists.elim hw ?_; clear hw; intro k_dr_reefs hw
  refine Exists.elim hw ?_; clear hw; intro k_dr_cornerNames hw
  refine Exists.elim hw ?_; clear hw; intro k_dr_guildNames hw
  refine Exists.elim hw ?_; clear hw; intro k_dr_pu hw
  refine Exists.elim hw ?_; clear hw; intro k_dr_pu_op hw
  refine Exists.elim hw ?_; clear hw; intro k_dr_pu_nu hw
  refine Exists.elim hw ?_; clear hw; intro k_dr_pu_st hw
  refine Exists.elim hw ?_; clear hw; intro k_dr_ho hw
  refine Exists.elim hw ?_; clear hw; intro k_dr_ho_op hw
  refine Exists.elim hw ?_; clear hw; intro k_dr_ho_nu hw
  refine Exists.elim hw ?_; clear hw; intro k_dr_ho_st hw
  refine Exists.elim hw ?_; clear hw; intro k_to hw
  refine Exists.elim hw ?_; clear hw; intro k_to_winds hw
  refine Exists.elim hw ?_; clear hw; intro k_to_lees hw
  refine Exists.elim hw ?_; clear hw; intro k_to_gustChances hw
  refine Exists.elim hw ?_; clear hw; intro k_to_gusts hw
  refine Exists.elim hw ?_; clear hw; intro k_to_cloths hw
  refine Exists.elim hw ?_; clear hw; intro k_to_trues hw
  refine Exists.elim hw ?_; clear hw; intro k_to_strengths hw
  refine Exists.elim hw ?_; clear hw; intro k_to_reefs hw
  refine Exists.elim hw ?_; clear hw; intro k_to_pu hw
  refine Exists.elim hw ?_; clear hw; intro k_to_pu_op hw
  refine Exists.elim hw ?_; clear hw; intro k_to_pu_nu hw
  refine Exists.elim hw ?_; clear hw; intro k_to_pu_st hw
  refine Exists.elim hw ?_; clear hw; intro k_to_ho hw
  refine Exists.elim hw ?_; clear hw; intro k_to_ho_op hw
  refine Exists.elim hw ?_; clear hw; intro k_to_ho_nu hw
  refine Exists.elim hw ?_; clear hw; intro k_to_ho_st hw
  refine Exists.elim hw ?_; clear hw; intro k_no hw
  refine Exists.elim hw ?_; clear hw; intro k_no_or hw
  refine Exists.elim hw ?_; clear hw; intro k_no_re hw
  refine Exists.elim hw ?_; clear hw; intro k_no_ch hw
  refine Exists.elim hw ?_; clear hw; intro k_no_ho hw
  refine Exists.elim hw ?_; clear hw; intro k_no_gu hw
  refine Exists.elim hw ?_; clear hw; intro k_co hw
  refine Exists.elim hw ?_; clear hw; intro k_va hw
  refine Exists.elim hw ?_; clear hw; intro k_ou hw
  refine Exists.elim hw ?_; clear hw; intro k_tr hw
  refine Exists.elim hw ?_; clear hw; intro k_tr_or hw
  refine Exists.elim hw ?_; clear hw; intro k_tr_re hw
  refine Exists.elim hw ?_; clear hw; intro k_tr_ch hw
  refine Exists.elim hw ?_; clear hw; intro k_tr_ho hw
  refine Exists.elim hw ?_; clear hw; intro k_tr_gu hw
  refine Exists.elim hw ?_; clear hw; intro k_ra hw
  refine Exists.elim hw ?_; clear hw; intro k_or_ hw
  refine Exists.elim hw ?_; clear hw; intro k_su hw
  refine Exists.elim hw ?_; clear hw; intro k_ah hw
  refine Exists.elim hw ?_; clear hw; intro k_td hw
  refine Exists.elim hw ?_; clear hw; intro k_be hw
  refine Exists.elim hw ?_; clear hw; intro k_hi hw
  refine Exists.elim hw ?_; clear hw; intro k_sa hw
  refine Exists.elim hw ?_; clear hw; intro k_ly hw
  refine Exists.elim hw ?_; clear hw; intro k_nu hw
  refine Exists.elim hw ?_; clear hw; intro k_si hw
  refine Exists.elim hw ?_; clear hw; intro k_s_corners hw
  refine Exists.elim hw ?_; clear hw; intro k_s_guilds hw
  refine Exists.elim hw ?_; clear hw; intro k_s_wasUp hw
  refine Exists.elim hw ?_; clear hw; intro k_s_toldAt hw
  refine Exists.elim hw ?_; clear hw; intro k_s_untoldAt hw
  refine Exists.elim hw ?_; clear hw; intro k_s_untold hw
  refine Exists.elim hw ?_; clear hw; intro k_s_upBehind hw
  refine Exists.elim hw ?_; clear hw; intro k_s_fitting hw
  refine Exists.elim hw ?_; clear hw; intro k_s_groups hw
  refine Exists.elim hw ?_; clear hw; intro k_t2 hw
  refine Exists.elim hw ?_; clear hw; intro k_t2_or hw
  refine Exists.elim hw ?_; clear hw; intro k_t2_re hw
  refine Exists.elim hw ?_; clear hw; intro k_t2_ch hw
  refine Exists.elim hw ?_; clear hw; intro k_t2_ho hw
  refine Exists.elim hw ?_; clear hw; intro k_t2_gu hw
  refine Exists.elim hw ?_; clear hw; intro k_bx hw
  refine Exists.elim hw ?_; clear hw; intro k_bf hw
  have hP : va_P g.1 vwCl W' H := by rw [List.nil_append, List.append_nil] at hP; exact hP
  have hD : va_D A W' := by rw [List.nil_append, List.append_nil] at hD; exact hD
  refine lv_astore_n (lv' := [(1, .ref k_h0), (0, .ref b)]) hx hb dL_law_7 rfl hl (by decide) rfl (fun ls hl => ?_)
  refine va_new (ci := 11) (fs := [.null, .null, .int 0, .int 0, .int 0, .int 0, .int 0, .int 0, .int 0, .int 0, .long 0, .null, .null, .null, .null, .null, .null, .null, .null, .null, .null, .null, .null, .null, .null, .null, .null, .null, .null, .null, .null, .null, .null, .null, .int 0, .int 0, .int 0, .int 0, .int 0, .int 0, .int 0, .int 0, .int 0, .int 0, .int 0, .int 0, .null, .int 0, .null, .int 0, .int 0, .null, .null, .null, .int 0, .null, .null, .null, .null, .null, .null, .null, .null, .null, .null, .int 0, .int 0, .null, .null]) (C := RX11) (T := TX11) (N := 69) hx hb hts inlX11 tyX11 tyX11_ok hown (hts _ q1_3) (hts _ q1_4) (hts _ q1_5) hK hP hD hS hA rfl (by decide +kernel) (Nat.le_of_ble_eq_true rfl) (Nat.le_of_ble_eq_true rfl) dL_law_8 (fun r_h0 H hP hD hS => ?_)
  have hP : va_P g.1 vwCl ([(r_h0, .inr (11, [.null, .null, .int 0, .int 0, .int 0, .int 0, .int 0, .int 0, .int 0, .int 0, .long 0, .null, .null, .null, .null, .null, .null, .null, .null, .null, .null, .null, .null, .null, .null, .null, .null, .null, .null, .null, .null, .null, .null, .null, .int 0, .int 0, .int 0, .int 0, .int 0, .int 0, .int 0, .int 0, .int 0, .int 0, .int 0, .int 0, .null, .int 0, .null, .int 0, .int 0, .null, .null, .null, .int 0, .null, .null, .null, .null, .null, .null, .null, .null, .null, .null, .int 0, .int 0, .null, .null]))] ++ W') H := P_perm hP List.perm_append_comm
  have hD : va_D A ([(r_h0, .inr (11, [.null, .null, .int 0, .int 0, .int 0, .int 0, .int 0, .int 0, .int 0, .int 0, .long 0, .null, .null, .null, .null, .null, .null, .null, .null, .null, .null, .null, .null, .null, .null, .null, .null, .null, .null, .null, .null, .null, .null, .null, .int 0, .int 0, .int 0, .int 0, .int 0, .int 0, .int 0, .int 0, .int 0, .int 0, .int 0, .int 0, .null, .int 0, .null, .int 0, .int 0, .null, .null, .null, .int 0, .null, .null, .null, .null, .null, .null, .null, .null, .null, .null, .int 0, .int 0, .null, .null]))] ++ W') := D_perm hD List.perm_append_comm
  refine lv_dup hx hb dL_law_11 rfl ?_
  refine kVq (wc := [(r_h0, .inr (11, [.null, .null, .int 0, .int 0, .int 0, .int 0, .int 0, .int 0, .int 0, .int 0, .long 0, .null, .null, .null, .null, .null, .null, .null, .null, .null, .null, .null, .null, .null, .null, .null, .null, .null, .null, .null, .null, .null, .null, .null, .int 0, .int 0, .int 0, .int 0, .int 0, .int 0, .int 0, .int 0, .int 0, .int 0, .int 0, .int 0, .null, .int 0, .null, .int 0, .int 0, .null, .null, .null, .int 0, .null, .null, .null, .null, .null, .null, .null, .null, .null, .null, .int 0, .int 0, .null, .null]))]) (wr := []) (rN (As := []) (rest := [.ref r_h0]) hcx (c_X11_init H.size) (gdC q12_13) q1_5 q12_11 q12_12 rfl dvX11_init.2 ⟨Nat.le_of_ble_eq_true rfl, Nat.le_of_ble_eq_true rfl⟩ (hP.sub [0] rfl) (hD.sub [0] (by decide) rfl) rfl hl.1 rfl (Nat.le_of_ble_eq_true rfl) dL_law_12 ⟨Nat.le_of_ble_eq_true rfl, Nat.le_of_ble_eq_true rfl⟩) hP hD hS hA [0] [] rfl rfl rfl (by decide) (fun V' H locs hv hP hD hS => ?_)
  refine Exists.elim hv ?_; clear hv; intro r_m_tape hv
  refine Exists.elim hv ?_; clear hv; intro r_m_text hv
  refine Exists.elim hv ?_; clear hv; intro r_m_corners hv
  refine Exists.elim hv ?_; clear hv; intro r_m_guilds hv
  refine Exists.elim hv ?_; clear hv; intro r_m_gusts hv
  refine Exists.elim hv ?_; clear hv; intro r_m_units hv
  refine Exists.elim hv ?_; clear hv; intro r_m_draw hv
  refine Exists.elim hv ?_; clear hv; intro r_m_told hv
  refine Exists.elim hv ?_; clear hv; intro r_m_wind hv
  refine Exists.elim hv ?_; clear hv; intro r_m_lee hv
  refine Exists.elim hv ?_; clear hv; intro r_m_gust hv
  refine Exists.elim hv ?_; clear hv; intro r_m_blow hv
  refine Exists.elim hv ?_; clear hv; intro r_m_cloth hv
  refine Exists.elim hv ?_; clear hv; intro r_m_truth hv
  refine Exists.elim hv ?_; clear hv; intro r_m_strong hv
  refine Exists.elim hv ?_; clear hv; intro r_m_reefTold hv
  refine Exists.elim hv ?_; clear hv; intro r_m_ruleFrom hv
  refine Exists.elim hv ?_; clear hv; intro r_m_ruleTo hv
  refine Exists.elim hv ?_; clear hv; intro r_m_cName hv
  refine Exists.elim hv ?_; clear hv; intro r_m_gName hv
  refine Exists.elim hv ?_; clear hv; intro r_m_code hv
  refine Exists.elim hv ?_; clear hv; intro r_m_codeNumber hv
  refine Exists.elim hv ?_; clear hv; intro r_m_eWhat hv
  refine Exists.elim hv ?_; clear hv; intro r_m_eSign hv
  refine Exists.elim hv ?_; clear hv; intro r_m_pile hv
  refine Exists.elim hv ?_; clear hv; intro r_m_all hv
  refine Exists.elim hv ?_; clear hv; intro r_m_was hv
  refine Exists.elim hv ?_; clear hv; intro r_m_kept hv
  refine Exists.elim hv ?_; clear hv; intro r_m_laidRow hv
  refine Exists.elim hv ?_; clear hv; intro r_m_fell hv
  refine Exists.elim hv ?_; clear hv; intro r_m_good hv
  refine Exists.elim hv ?_; clear hv; intro r_m_least hv
  refine Exists.elim hv ?_; clear hv; intro r_m_with hv
  refine Exists.elim hv ?_; clear hv; intro r_m_upBy hv
  refine Exists.elim hv ?_; clear hv; intro r_m_sCorners hv
  refine Exists.elim hv ?_; clear hv; intro r_m_sGuild hv
  refine Exists.elim hv ?_; clear hv; intro r_m_sIs hv
  refine Exists.elim hv ?_; clear hv; intro r_m_sTold hv
  refine Exists.elim hv ?_; clear hv; intro r_m_sUntold hv
  refine Exists.elim hv ?_; clear hv; intro r_m_parts hv
  refine Exists.elim hv ?_; clear hv; intro r_m_boxAll hv
  refine Exists.elim hv ?_; clear hv; intro r_m_isBoxed hv
  have hP : va_P g.1 vwCl (W' ++ V') H := by rw [List.nil_append] at hP; exact P_perm hP List.perm_append_comm
  have hD : va_D A (W' ++ V') := by rw [List.nil_append] at hD; exact D_perm hD List.perm_append_comm
  refine lv_astore_n (lv' := [(2, .ref r_h0), (1, .ref k_h0), (0, .ref b)]) hx hb dL_law_15 rfl hl (by decide) rfl (fun ls hl => ?_)
  refine lv_iconst (v := 0) hx hb dL_law_16 (by decide) ?_
  refine lv_istore_n (lv' := [(3, .int 0), (2, .ref r_h0), (1, .ref k_h0), (0, .ref b)]) hx hb dL_law_17 rfl hl (by decide) rfl (fun ls hl => ?_)
  exact law_loop (Nat.le_of_ble_eq_true rfl) (Nat.le_of_ble_eq_true rfl) hcx hF hX hL hbl hbA hA hAl 4001 0 H locs ls 0 W' V' (by decide) (by decide) hw hv hP hD hS hl
