theorem znar {m : Nat} (h : m ≤ 1) : vp_nar .boolean (nI m) = nI m := by
  rcases (show m = 0 ∨ m = 1 by omega) with rfl | rfl <;> decide
set_option maxHeartbeats 4000000 in
set_option maxRecDepth 100000 in
theorem c_X7_isUp {l : Launch} {g : Gx} {h0 : Nat} {h0_order : Value} {h0_reefs : Value} {h0_children : Value} {h0_hosts : Value} {h0_guests : Value} {h0_up : Int32} {h0_standing : Nat} {h0_day : Int32} {h0_seed : Int32} {h0_firstTrue : Int32} {p0 : Int32} (hb_h0_standing : h0_standing ≤ 8) : MI l g yX7_isUp cX7_isUp 2 (some .boolean) 2 0 0 [.ref h0, .int p0] [(h0, .inr (7, [h0_order, h0_reefs, h0_children, h0_hosts, h0_guests, .int h0_up, .int (nI h0_standing), .int h0_day, .int h0_seed, .int h0_firstTrue]))] (fun r W' => (∃ m : Nat, m ≤ 1 ∧ nI m = r) ∧ W' = [(h0, .inr (7, [h0_order, h0_reefs, h0_children, h0_hosts, h0_guests, .int h0_up, .int (nI h0_standing), .int h0_day, .int h0_seed, .int h0_firstTrue]))]) := by
  refine MIof (by decide) (Nat.le_of_ble_eq_true rfl) ?_
  intro p e s m below meth c A ls H locs hcx hA hP hD hS hl
  obtain ⟨hx, hb, hml, hr, hlocks, hown, hts, hE, hnm⟩ := id hcx
  have hown : s.vm.findClass RX7 = some m.cls := hown
  have hK := hE.1
  have hl : lv_has ls 2 [(0, .ref h0), (1, .int p0)] := hl
  refine lv_aload_n hx hb dX7_isUp_0 rfl (lv_at hl 0 rfl) ?_
  refine va_get (D := g.1) (ci := 7) (v := Value.int h0_up) (C := RX7) (T := TX7) (N := 10) hx hb hts inlX7 hown hK hP 0 rfl rfl 5 (by decide) (hts _ q10_22) (fun _ h9 => h9) rfl dX7_isUp_1 ?_
  refine lv_iload_n hx hb dX7_isUp_4 rfl (lv_at hl 1 rfl) ?_
  refine lv_ishr hx hb dX7_isUp_5 ?_
  refine lv_topi (fun x1 ex1 => ?_)
  refine lv_iconst (v := 1) hx hb dX7_isUp_6 (by decide) ?_
  refine lv_iand hx hb dX7_isUp_7 ?_
  refine lv_topi (fun x2 ex2 => ?_)
  refine lv_iconst (v := 1) hx hb dX7_isUp_8 (by decide) ?_
  refine lv_icmp_ne (tgt := 16) hx hb dX7_isUp_9 (by decide) (fun c3 => ?_) (fun c3 => ?_)
  · refine lv_iconst (v := 0) hx hb dX7_isUp_16 (by decide) ?_
    exact xi hx hb hr hlocks rfl hP hD hS ⟨⟨0, by omega, rfl⟩, rfl⟩ (Nat.le_of_ble_eq_true rfl) (Nat.le_of_ble_eq_true rfl) dX7_isUp_17
  · refine lv_iconst (v := 1) hx hb dX7_isUp_12 (by decide) ?_
    refine lv_goto (tgt := 17) hx hb dX7_isUp_13 (by decide) ?_
    exact xi hx hb hr hlocks rfl hP hD hS ⟨⟨1, by omega, rfl⟩, rfl⟩ (Nat.le_of_ble_eq_true rfl) (Nat.le_of_ble_eq_true rfl) dX7_isUp_17

set_option maxHeartbeats 4000000 in
set_option maxRecDepth 100000 in
theorem c_X7_isUpG {l : Launch} {g : Gx} {h0 : Nat} {h0_order : Value} {h0_reefs : Value} {h0_children : Value} {h0_hosts : Value} {h0_guests : Value} {h0_up : Int32} {h0_standing : Nat} {h0_day : Int32} {h0_seed : Int32} {h0_firstTrue : Int32} {p0 : Nat} (hb_h0_standing : h0_standing ≤ 8) (hb_p0 : p0 ≤ 4) : MI l g yX7_isUp cX7_isUp 2 (some .boolean) 2 0 0 [.ref h0, .int (nI p0)] [(h0, .inr (7, [h0_order, h0_reefs, h0_children, h0_hosts, h0_guests, .int h0_up, .int (nI h0_standing), .int h0_day, .int h0_seed, .int h0_firstTrue]))] (fun r W' => (∃ m : Nat, m ≤ 1 ∧ nI m = r) ∧ W' = [(h0, .inr (7, [h0_order, h0_reefs, h0_children, h0_hosts, h0_guests, .int h0_up, .int (nI h0_standing), .int h0_day, .int h0_seed, .int h0_firstTrue]))]) := by
  refine MIof (by decide) (Nat.le_of_ble_eq_true rfl) ?_
  intro p e s m below meth c A ls H locs hcx hA hP hD hS hl
  obtain ⟨hx, hb, hml, hr, hlocks, hown, hts, hE, hnm⟩ := id hcx
  have hown : s.vm.findClass RX7 = some m.cls := hown
  have hK := hE.1
  have hl : lv_has ls 2 [(0, .ref h0), (1, .int (nI p0))] := hl
  refine lv_aload_n hx hb dX7_isUp_0 rfl (lv_at hl 0 rfl) ?_
  refine va_get (D := g.1) (ci := 7) (v := Value.int h0_up) (C := RX7) (T := TX7) (N := 10) hx hb hts inlX7 hown hK hP 0 rfl rfl 5 (by decide) (hts _ q10_22) (fun _ h9 => h9) rfl dX7_isUp_1 ?_
  refine lv_iload_n hx hb dX7_isUp_4 rfl (lv_at hl 1 rfl) ?_
  refine lv_ishr hx hb dX7_isUp_5 ?_
  refine lv_topi (fun x1 ex1 => ?_)
  refine lv_iconst (v := 1) hx hb dX7_isUp_6 (by decide) ?_
  refine lv_iand hx hb dX7_isUp_7 ?_
  refine lv_topi (fun x2 ex2 => ?_)
  refine lv_iconst (v := 1) hx hb dX7_isUp_8 (by decide) ?_
  refine lv_icmp_ne (tgt := 16) hx hb dX7_isUp_9 (by decide) (fun c3 => ?_) (fun c3 => ?_)
  · refine lv_iconst (v := 0) hx hb dX7_isUp_16 (by decide) ?_
    exact xi hx hb hr hlocks rfl hP hD hS ⟨⟨0, by omega, rfl⟩, rfl⟩ (Nat.le_of_ble_eq_true rfl) (Nat.le_of_ble_eq_true rfl) dX7_isUp_17
  · refine lv_iconst (v := 1) hx hb dX7_isUp_12 (by decide) ?_
    refine lv_goto (tgt := 17) hx hb dX7_isUp_13 (by decide) ?_
    exact xi hx hb hr hlocks rfl hP hD hS ⟨⟨1, by omega, rfl⟩, rfl⟩ (Nat.le_of_ble_eq_true rfl) (Nat.le_of_ble_eq_true rfl) dX7_isUp_17

set_option maxHeartbeats 4000000 in
set_option maxRecDepth 100000 in
theorem c_X7_isBearerUp {l : Launch} {g : Gx} {h0 h0_ho : Nat} {h0_order : Value} {h0_reefs : Value} {h0_children : Value} {h0_guests : Value} {h0_up : Int32} {h0_standing : Nat} {h0_day : Int32} {h0_seed : Int32} {h0_firstTrue : Int32} {f_h0_ho : Nat → Int32} {p0 : Nat} (hb_h0_standing : h0_standing ≤ 8) (ht_h0_ho : TM 5 4 f_h0_ho) (hb_p0 : p0 ≤ 4) : MI l g yX7_isBearerUp cX7_isBearerUp 2 (some .boolean) 2 0 0 [.ref h0, .int (nI p0)] [(h0, .inr (7, [h0_order, h0_reefs, h0_children, .ref h0_ho, h0_guests, .int h0_up, .int (nI h0_standing), .int h0_day, .int h0_seed, .int h0_firstTrue])), (h0_ho, .inl (gI g, 5, .inl f_h0_ho))] (fun r W' => (∃ m : Nat, m ≤ 1 ∧ nI m = r) ∧ W' = [(h0, .inr (7, [h0_order, h0_reefs, h0_children, .ref h0_ho, h0_guests, .int h0_up, .int (nI h0_standing), .int h0_day, .int h0_seed, .int h0_firstTrue])), (h0_ho, .inl (gI g, 5, .inl f_h0_ho))]) := by
  refine MIof (by decide) (Nat.le_of_ble_eq_true rfl) ?_
  intro p e s m below meth c A ls H locs hcx hA hP hD hS hl
  obtain ⟨hx, hb, hml, hr, hlocks, hown, hts, hE, hnm⟩ := id hcx
  have hown : s.vm.findClass RX7 = some m.cls := hown
  have hK := hE.1
  have hl : lv_has ls 2 [(0, .ref h0), (1, .int (nI p0))] := hl
  refine lv_aload_n hx hb dX7_isBearerUp_0 rfl (lv_at hl 0 rfl) ?_
  refine va_get (D := g.1) (ci := 7) (v := Value.ref h0_ho) (C := RX7) (T := TX7) (N := 10) hx hb hts inlX7 hown hK hP 0 rfl rfl 3 (by decide) (hts _ q7_11) (fun _ h9 => h9) rfl dX7_isBearerUp_1 ?_
  refine lv_iload_n hx hb dX7_isBearerUp_4 rfl (lv_at hl 1 rfl) ?_
  refine ia_ld hx hb hK hP 1 1 rfl rfl (p0) rfl (by omega) (by decide) dX7_isBearerUp_5 ?_
  obtain ⟨x2, ex2⟩ : ∃ y : Int32, y = f_h0_ho (p0) := ⟨_, rfl⟩
  have hx2 : XM 4 x2 := by rw [ex2]; exact ht_h0_ho (p0) (by omega)
  refine lv_tope ex2.symm ?_
  refine lv_iconst (v := (-1)) hx hb dX7_isBearerUp_6 (by decide) ?_
  refine lv_icmp_ne (tgt := 26) hx hb dX7_isBearerUp_7 (by decide) (fun c3 => ?_) (fun c3 => ?_)
  · obtain ⟨m4, hm4, em4⟩ := hx2.resolve_left c3
    subst em4
    refine lv_iconst (v := 0) hx hb dX7_isBearerUp_26 (by decide) ?_
    exact xi hx hb hr hlocks rfl hP hD hS ⟨⟨0, by omega, rfl⟩, rfl⟩ (Nat.le_of_ble_eq_true rfl) (Nat.le_of_ble_eq_true rfl) dX7_isBearerUp_27
  · refine lv_aload_n hx hb dX7_isBearerUp_10 rfl (lv_at hl 0 rfl) ?_
    refine va_get (D := g.1) (ci := 7) (v := Value.int h0_up) (C := RX7) (T := TX7) (N := 10) hx hb hts inlX7 hown hK hP 0 rfl rfl 5 (by decide) (hts _ q10_22) (fun _ h9 => h9) rfl dX7_isBearerUp_11 ?_
    refine lv_iload_n hx hb dX7_isBearerUp_14 rfl (lv_at hl 1 rfl) ?_
    refine lv_ishr hx hb dX7_isBearerUp_15 ?_
    refine lv_topi (fun x5 ex5 => ?_)
    refine lv_iconst (v := 1) hx hb dX7_isBearerUp_16 (by decide) ?_
    refine lv_iand hx hb dX7_isBearerUp_17 ?_
    refine lv_topi (fun x6 ex6 => ?_)
    refine lv_iconst (v := 1) hx hb dX7_isBearerUp_18 (by decide) ?_
    refine lv_icmp_ne (tgt := 26) hx hb dX7_isBearerUp_19 (by decide) (fun c7 => ?_) (fun c7 => ?_)
    · refine lv_iconst (v := 0) hx hb dX7_isBearerUp_26 (by decide) ?_
      exact xi hx hb hr hlocks rfl hP hD hS ⟨⟨0, by omega, rfl⟩, rfl⟩ (Nat.le_of_ble_eq_true rfl) (Nat.le_of_ble_eq_true rfl) dX7_isBearerUp_27
    · refine lv_iconst (v := 1) hx hb dX7_isBearerUp_22 (by decide) ?_
      refine lv_goto (tgt := 27) hx hb dX7_isBearerUp_23 (by decide) ?_
      exact xi hx hb hr hlocks rfl hP hD hS ⟨⟨1, by omega, rfl⟩, rfl⟩ (Nat.le_of_ble_eq_true rfl) (Nat.le_of_ble_eq_true rfl) dX7_isBearerUp_27

set_option maxHeartbeats 4000000 in
set_option maxRecDepth 100000 in
theorem c_X7_canGoUnder {l : Launch} {g : Gx} {h0 h0_ho h0_gu : Nat} {h0_order : Value} {h0_reefs : Value} {h0_children : Value} {h0_up : Int32} {h0_standing : Nat} {h0_day : Int32} {h0_seed : Int32} {h0_firstTrue : Int32} {f_h0_ho : Nat → Int32} {f_h0_gu : Nat → Int32} {p0 : Nat} {p1 : Nat} (hb_h0_standing : h0_standing ≤ 8) (ht_h0_ho : TM 5 4 f_h0_ho) (ht_h0_gu : TM 5 4 f_h0_gu) (hb_p0 : p0 ≤ 4) (hb_p1 : p1 ≤ 4) : MI l g yX7_canGoUnder cX7_canGoUnder 3 (some .boolean) 3 0 0 [.ref h0, .int (nI p0), .int (nI p1)] [(h0, .inr (7, [h0_order, h0_reefs, h0_children, .ref h0_ho, .ref h0_gu, .int h0_up, .int (nI h0_standing), .int h0_day, .int h0_seed, .int h0_firstTrue])), (h0_ho, .inl (gI g, 5, .inl f_h0_ho)), (h0_gu, .inl (gI g, 5, .inl f_h0_gu))] (fun r W' => (∃ m : Nat, m ≤ 1 ∧ nI m = r) ∧ W' = [(h0, .inr (7, [h0_order, h0_reefs, h0_children, .ref h0_ho, .ref h0_gu, .int h0_up, .int (nI h0_standing), .int h0_day, .int h0_seed, .int h0_firstTrue])), (h0_ho, .inl (gI g, 5, .inl f_h0_ho)), (h0_gu, .inl (gI g, 5, .inl f_h0_gu))]) := by
  refine MIof (by decide) (Nat.le_of_ble_eq_true rfl) ?_
  intro p e s m below meth c A ls H locs hcx hA hP hD hS hl
  obtain ⟨hx, hb, hml, hr, hlocks, hown, hts, hE, hnm⟩ := id hcx
  have hown : s.vm.findClass RX7 = some m.cls := hown
  have hK := hE.1
  have hl : lv_has ls 3 [(0, .ref h0), (1, .int (nI p0)), (2, .int (nI p1))] := hl
  refine lv_iload_n hx hb dX7_canGoUnder_0 rfl (lv_at hl 1 rfl) ?_
  refine lv_iload_n hx hb dX7_canGoUnder_1 rfl (lv_at hl 2 rfl) ?_
  refine lv_icmp_eq (tgt := 45) hx hb dX7_canGoUnder_2 (by decide) (fun c1 => ?_) (fun c1 => ?_)
  · have hn2 := neq (a := p0) (b := p1) (by omega) (by omega) c1
    refine lv_iconst (v := 0) hx hb dX7_canGoUnder_45 (by decide) ?_
    exact xi hx hb hr hlocks rfl hP hD hS ⟨⟨0, by omega, rfl⟩, rfl⟩ (Nat.le_of_ble_eq_true rfl) (Nat.le_of_ble_eq_true rfl) dX7_canGoUnder_46
  · have hn3 := nneq (a := p0) (b := p1) (by omega) (by omega) c1
    refine lv_aload_n hx hb dX7_canGoUnder_5 rfl (lv_at hl 0 rfl) ?_
    refine lv_iload_n hx hb dX7_canGoUnder_6 rfl (lv_at hl 1 rfl) ?_
    refine kI (wc := [(h0, .inr (7, [h0_order, h0_reefs, h0_children, .ref h0_ho, .ref h0_gu, .int h0_up, .int (nI h0_standing), .int h0_day, .int h0_seed, .int h0_firstTrue])), (h0_ho, .inl (gI g, 5, .inl f_h0_ho))]) (wr := [(h0_gu, .inl (gI g, 5, .inl f_h0_gu))]) (rV (As := [.int (nI p0)]) (rest := []) (meth2 := "") hcx (c_X7_isBearerUp (by omega) (ht_h0_ho) (by omega) H.size) (gdV q43_23 q38_0 q38_1 q2_5 q38_2) dvX7_isBearerUp ⟨Nat.le_of_ble_eq_true rfl, Nat.le_of_ble_eq_true rfl⟩ (hP.sub [0, 1] rfl) (hD.sub [0, 1] (by decide) rfl) (va_recv hK hP (ci := 7) (q0 := 0) rfl rfl) rfl hl.1 rfl (Nat.le_of_ble_eq_true rfl) dX7_canGoUnder_7 ⟨Nat.le_of_ble_eq_true rfl, Nat.le_of_ble_eq_true rfl⟩) hP hD hS hA [0, 1] [2] rfl rfl (by decide) (by decide) (fun r4 W' H locs hw hP hD hS => ?_)
    obtain ⟨⟨m5, hm5, rfl⟩, rfl⟩ := hw
    have hP : va_P g.1 vwCl [(h0_gu, .inl (gI g, 5, .inl f_h0_gu)), (h0, .inr (7, [h0_order, h0_reefs, h0_children, .ref h0_ho, .ref h0_gu, .int h0_up, .int (nI h0_standing), .int h0_day, .int h0_seed, .int h0_firstTrue])), (h0_ho, .inl (gI g, 5, .inl f_h0_ho))] H := hP
    have hD : va_D A [(h0_gu, .inl (gI g, 5, .inl f_h0_gu)), (h0, .inr (7, [h0_order, h0_reefs, h0_children, .ref h0_ho, .ref h0_gu, .int h0_up, .int (nI h0_standing), .int h0_day, .int h0_seed, .int h0_firstTrue])), (h0_ho, .inl (gI g, 5, .inl f_h0_ho))] := hD
    refine lv_if_eq (tgt := 45) hx hb dX7_canGoUnder_10 (by decide) (fun c6 => ?_) (fun c6 => ?_)
    · have hn7 := neq (a := m5) (b := 0) (by omega) (by omega) c6
      refine lv_iconst (v := 0) hx hb dX7_canGoUnder_45 (by decide) ?_
      have hP9 : va_P g.1 vwCl [(h0, .inr (7, [h0_order, h0_reefs, h0_children, .ref h0_ho, .ref h0_gu, .int h0_up, .int (nI h0_standing), .int h0_day, .int h0_seed, .int h0_firstTrue])), (h0_ho, .inl (gI g, 5, .inl f_h0_ho)), (h0_gu, .inl (gI g, 5, .inl f_h0_gu))] H := hP.sub [1, 2, 0] rfl
      have hD9 : va_D A [(h0, .inr (7, [h0_order, h0_reefs, h0_children, .ref h0_ho, .ref h0_gu, .int h0_up, .int (nI h0_standing), .int h0_day, .int h0_seed, .int h0_firstTrue])), (h0_ho, .inl (gI g, 5, .inl f_h0_ho)), (h0_gu, .inl (gI g, 5, .inl f_h0_gu))] := hD.sub [1, 2, 0] (by decide) rfl
      exact xi hx hb hr hlocks rfl hP9 hD9 hS ⟨⟨0, by omega, rfl⟩, rfl⟩ (Nat.le_of_ble_eq_true rfl) (Nat.le_of_ble_eq_true rfl) dX7_canGoUnder_46
    · have hn8 := nneq (a := m5) (b := 0) (by omega) (by omega) c6
      refine lv_aload_n hx hb dX7_canGoUnder_13 rfl (lv_at hl 0 rfl) ?_
      refine lv_iload_n hx hb dX7_canGoUnder_14 rfl (lv_at hl 2 rfl) ?_
      refine kI (wc := [(h0, .inr (7, [h0_order, h0_reefs, h0_children, .ref h0_ho, .ref h0_gu, .int h0_up, .int (nI h0_standing), .int h0_day, .int h0_seed, .int h0_firstTrue])), (h0_ho, .inl (gI g, 5, .inl f_h0_ho))]) (wr := [(h0_gu, .inl (gI g, 5, .inl f_h0_gu))]) (rV (As := [.int (nI p1)]) (rest := []) (meth2 := "") hcx (c_X7_isBearerUp (by omega) (ht_h0_ho) (by omega) H.size) (gdV q43_23 q38_0 q38_1 q2_5 q38_2) dvX7_isBearerUp ⟨Nat.le_of_ble_eq_true rfl, Nat.le_of_ble_eq_true rfl⟩ (hP.sub [1, 2] rfl) (hD.sub [1, 2] (by decide) rfl) (va_recv hK hP (ci := 7) (q0 := 1) rfl rfl) rfl hl.1 rfl (Nat.le_of_ble_eq_true rfl) dX7_canGoUnder_15 ⟨Nat.le_of_ble_eq_true rfl, Nat.le_of_ble_eq_true rfl⟩) hP hD hS hA [1, 2] [0] rfl rfl (by decide) (by decide) (fun r9 W' H locs hw hP hD hS => ?_)
      obtain ⟨⟨m10, hm10, rfl⟩, rfl⟩ := hw
      have hP : va_P g.1 vwCl [(h0_gu, .inl (gI g, 5, .inl f_h0_gu)), (h0, .inr (7, [h0_order, h0_reefs, h0_children, .ref h0_ho, .ref h0_gu, .int h0_up, .int (nI h0_standing), .int h0_day, .int h0_seed, .int h0_firstTrue])), (h0_ho, .inl (gI g, 5, .inl f_h0_ho))] H := hP
      have hD : va_D A [(h0_gu, .inl (gI g, 5, .inl f_h0_gu)), (h0, .inr (7, [h0_order, h0_reefs, h0_children, .ref h0_ho, .ref h0_gu, .int h0_up, .int (nI h0_standing), .int h0_day, .int h0_seed, .int h0_firstTrue])), (h0_ho, .inl (gI g, 5, .inl f_h0_ho))] := hD
      refine lv_if_eq (tgt := 45) hx hb dX7_canGoUnder_18 (by decide) (fun c11 => ?_) (fun c11 => ?_)
      · have hn12 := neq (a := m10) (b := 0) (by omega) (by omega) c11
        refine lv_iconst (v := 0) hx hb dX7_canGoUnder_45 (by decide) ?_
        have hP9 : va_P g.1 vwCl [(h0, .inr (7, [h0_order, h0_reefs, h0_children, .ref h0_ho, .ref h0_gu, .int h0_up, .int (nI h0_standing), .int h0_day, .int h0_seed, .int h0_firstTrue])), (h0_ho, .inl (gI g, 5, .inl f_h0_ho)), (h0_gu, .inl (gI g, 5, .inl f_h0_gu))] H := hP.sub [1, 2, 0] rfl
        have hD9 : va_D A [(h0, .inr (7, [h0_order, h0_reefs, h0_children, .ref h0_ho, .ref h0_gu, .int h0_up, .int (nI h0_standing), .int h0_day, .int h0_seed, .int h0_firstTrue])), (h0_ho, .inl (gI g, 5, .inl f_h0_ho)), (h0_gu, .inl (gI g, 5, .inl f_h0_gu))] := hD.sub [1, 2, 0] (by decide) rfl
        exact xi hx hb hr hlocks rfl hP9 hD9 hS ⟨⟨0, by omega, rfl⟩, rfl⟩ (Nat.le_of_ble_eq_true rfl) (Nat.le_of_ble_eq_true rfl) dX7_canGoUnder_46
      · have hn13 := nneq (a := m10) (b := 0) (by omega) (by omega) c11
        refine lv_aload_n hx hb dX7_canGoUnder_21 rfl (lv_at hl 0 rfl) ?_
        refine va_get (D := g.1) (ci := 7) (v := Value.ref h0_gu) (C := RX7) (T := TX7) (N := 10) hx hb hts inlX7 hown hK hP 1 rfl rfl 4 (by decide) (hts _ q7_12) (fun _ h9 => h9) rfl dX7_canGoUnder_22 ?_
        refine lv_iload_n hx hb dX7_canGoUnder_25 rfl (lv_at hl 1 rfl) ?_
        refine ia_ld hx hb hK hP 0 1 rfl rfl (p0) rfl (by omega) (by decide) dX7_canGoUnder_26 ?_
        obtain ⟨x15, ex15⟩ : ∃ y : Int32, y = f_h0_gu (p0) := ⟨_, rfl⟩
        have hx15 : XM 4 x15 := by rw [ex15]; exact ht_h0_gu (p0) (by omega)
        refine lv_tope ex15.symm ?_
        refine lv_iconst (v := (-1)) hx hb dX7_canGoUnder_27 (by decide) ?_
        refine lv_icmp_ne (tgt := 45) hx hb dX7_canGoUnder_28 (by decide) (fun c16 => ?_) (fun c16 => ?_)
        · obtain ⟨m17, hm17, em17⟩ := hx15.resolve_left c16
          subst em17
          refine lv_iconst (v := 0) hx hb dX7_canGoUnder_45 (by decide) ?_
          have hP9 : va_P g.1 vwCl [(h0, .inr (7, [h0_order, h0_reefs, h0_children, .ref h0_ho, .ref h0_gu, .int h0_up, .int (nI h0_standing), .int h0_day, .int h0_seed, .int h0_firstTrue])), (h0_ho, .inl (gI g, 5, .inl f_h0_ho)), (h0_gu, .inl (gI g, 5, .inl f_h0_gu))] H := hP.sub [1, 2, 0] rfl
          have hD9 : va_D A [(h0, .inr (7, [h0_order, h0_reefs, h0_children, .ref h0_ho, .ref h0_gu, .int h0_up, .int (nI h0_standing), .int h0_day, .int h0_seed, .int h0_firstTrue])), (h0_ho, .inl (gI g, 5, .inl f_h0_ho)), (h0_gu, .inl (gI g, 5, .inl f_h0_gu))] := hD.sub [1, 2, 0] (by decide) rfl
          exact xi hx hb hr hlocks rfl hP9 hD9 hS ⟨⟨0, by omega, rfl⟩, rfl⟩ (Nat.le_of_ble_eq_true rfl) (Nat.le_of_ble_eq_true rfl) dX7_canGoUnder_46
        · refine lv_aload_n hx hb dX7_canGoUnder_31 rfl (lv_at hl 0 rfl) ?_
          refine va_get (D := g.1) (ci := 7) (v := Value.ref h0_gu) (C := RX7) (T := TX7) (N := 10) hx hb hts inlX7 hown hK hP 1 rfl rfl 4 (by decide) (hts _ q7_12) (fun _ h9 => h9) rfl dX7_canGoUnder_32 ?_
          refine lv_iload_n hx hb dX7_canGoUnder_35 rfl (lv_at hl 2 rfl) ?_
          refine ia_ld hx hb hK hP 0 1 rfl rfl (p1) rfl (by omega) (by decide) dX7_canGoUnder_36 ?_
          obtain ⟨x19, ex19⟩ : ∃ y : Int32, y = f_h0_gu (p1) := ⟨_, rfl⟩
          have hx19 : XM 4 x19 := by rw [ex19]; exact ht_h0_gu (p1) (by omega)
          refine lv_tope ex19.symm ?_
          refine lv_iconst (v := (-1)) hx hb dX7_canGoUnder_37 (by decide) ?_
          refine lv_icmp_ne (tgt := 45) hx hb dX7_canGoUnder_38 (by decide) (fun c20 => ?_) (fun c20 => ?_)
          · obtain ⟨m21, hm21, em21⟩ := hx19.resolve_left c20
            subst em21
            refine lv_iconst (v := 0) hx hb dX7_canGoUnder_45 (by decide) ?_
            have hP9 : va_P g.1 vwCl [(h0, .inr (7, [h0_order, h0_reefs, h0_children, .ref h0_ho, .ref h0_gu, .int h0_up, .int (nI h0_standing), .int h0_day, .int h0_seed, .int h0_firstTrue])), (h0_ho, .inl (gI g, 5, .inl f_h0_ho)), (h0_gu, .inl (gI g, 5, .inl f_h0_gu))] H := hP.sub [1, 2, 0] rfl
            have hD9 : va_D A [(h0, .inr (7, [h0_order, h0_reefs, h0_children, .ref h0_ho, .ref h0_gu, .int h0_up, .int (nI h0_standing), .int h0_day, .int h0_seed, .int h0_firstTrue])), (h0_ho, .inl (gI g, 5, .inl f_h0_ho)), (h0_gu, .inl (gI g, 5, .inl f_h0_gu))] := hD.sub [1, 2, 0] (by decide) rfl
            exact xi hx hb hr hlocks rfl hP9 hD9 hS ⟨⟨0, by omega, rfl⟩, rfl⟩ (Nat.le_of_ble_eq_true rfl) (Nat.le_of_ble_eq_true rfl) dX7_canGoUnder_46
          · refine lv_iconst (v := 1) hx hb dX7_canGoUnder_41 (by decide) ?_
            refine lv_goto (tgt := 46) hx hb dX7_canGoUnder_42 (by decide) ?_
            have hP9 : va_P g.1 vwCl [(h0, .inr (7, [h0_order, h0_reefs, h0_children, .ref h0_ho, .ref h0_gu, .int h0_up, .int (nI h0_standing), .int h0_day, .int h0_seed, .int h0_firstTrue])), (h0_ho, .inl (gI g, 5, .inl f_h0_ho)), (h0_gu, .inl (gI g, 5, .inl f_h0_gu))] H := hP.sub [1, 2, 0] rfl
            have hD9 : va_D A [(h0, .inr (7, [h0_order, h0_reefs, h0_children, .ref h0_ho, .ref h0_gu, .int h0_up, .int (nI h0_standing), .int h0_day, .int h0_seed, .int h0_firstTrue])), (h0_ho, .inl (gI g, 5, .inl f_h0_ho)), (h0_gu, .inl (gI g, 5, .inl f_h0_gu))] := hD.sub [1, 2, 0] (by decide) rfl
            exact xi hx hb hr hlocks rfl hP9 hD9 hS ⟨⟨1, by omega, rfl⟩, rfl⟩ (Nat.le_of_ble_eq_true rfl) (Nat.le_of_ble_eq_true rfl) dX7_canGoUnder_46

set_option maxHeartbeats 4000000 in
set_option maxRecDepth 100000 in
theorem c_X7_goUnder {l : Launch} {g : Gx} {h0 h0_ho h0_gu : Nat} {h0_order : Value} {h0_reefs : Value} {h0_children : Value} {h0_up : Int32} {h0_standing : Nat} {h0_day : Int32} {h0_seed : Int32} {h0_firstTrue : Int32} {f_h0_ho : Nat → Int32} {f_h0_gu : Nat → Int32} {p0 : Nat} {p1 : Nat} (hb_h0_standing : h0_standing ≤ 8) (ht_h0_ho : TM 5 4 f_h0_ho) (ht_h0_gu : TM 5 4 f_h0_gu) (hb_p0 : p0 ≤ 4) (hb_p1 : p1 ≤ 4) : MV l g yX7_goUnder cX7_goUnder 3 2 0 0 [.ref h0, .int (nI p0), .int (nI p1)] [(h0, .inr (7, [h0_order, h0_reefs, h0_children, .ref h0_ho, .ref h0_gu, .int h0_up, .int (nI h0_standing), .int h0_day, .int h0_seed, .int h0_firstTrue])), (h0_ho, .inl (gI g, 5, .inl f_h0_ho)), (h0_gu, .inl (gI g, 5, .inl f_h0_gu))] (fun W' => ∃ (z0 : Nat → Int32) (z1 : Nat → Int32), W' = [(h0, .inr (7, [h0_order, h0_reefs, h0_children, .ref h0_ho, .ref h0_gu, .int h0_up, .int (nI h0_standing), .int h0_day, .int h0_seed, .int h0_firstTrue])), (h0_ho, .inl (gI g, 5, .inl z0)), (h0_gu, .inl (gI g, 5, .inl z1))] ∧ TM 5 4 z0 ∧ TM 5 4 z1) := by
  refine MVof (by decide) (Nat.le_of_ble_eq_true rfl) ?_
  intro p e s m below meth c A ls H locs hcx hA hP hD hS hl
  obtain ⟨hx, hb, hml, hr, hlocks, hown, hts, hE, hnm⟩ := id hcx
  have hown : s.vm.findClass RX7 = some m.cls := hown
  have hK := hE.1
  have hl : lv_has ls 3 [(0, .ref h0), (1, .int (nI p0)), (2, .int (nI p1))] := hl
  refine lv_aload_n hx hb dX7_goUnder_0 rfl (lv_at hl 0 rfl) ?_
  refine va_get (D := g.1) (ci := 7) (v := Value.ref h0_ho) (C := RX7) (T := TX7) (N := 10) hx hb hts inlX7 hown hK hP 0 rfl rfl 3 (by decide) (hts _ q7_11) (fun _ h9 => h9) rfl dX7_goUnder_1 ?_
  refine lv_iload_n hx hb dX7_goUnder_4 rfl (lv_at hl 1 rfl) ?_
  refine lv_iload_n hx hb dX7_goUnder_5 rfl (lv_at hl 2 rfl) ?_
  refine ia_st hx hb hK hP hD hS 1 1 rfl rfl (p0) rfl (by omega) (by decide) dX7_goUnder_6 (fun f1 H locs ef1 hP hD hS => ?_)
  have htf1 : TM 5 4 f1 := by rw [ef1]; exact TM_upd ht_h0_ho (XM_n (m := p1) (by omega))
  have hP : va_P g.1 vwCl [(h0, .inr (7, [h0_order, h0_reefs, h0_children, .ref h0_ho, .ref h0_gu, .int h0_up, .int (nI h0_standing), .int h0_day, .int h0_seed, .int h0_firstTrue])), (h0_ho, .inl (gI g, 5, .inl f1)), (h0_gu, .inl (gI g, 5, .inl f_h0_gu))] H := hP
  have hD : va_D A [(h0, .inr (7, [h0_order, h0_reefs, h0_children, .ref h0_ho, .ref h0_gu, .int h0_up, .int (nI h0_standing), .int h0_day, .int h0_seed, .int h0_firstTrue])), (h0_ho, .inl (gI g, 5, .inl f1)), (h0_gu, .inl (gI g, 5, .inl f_h0_gu))] := hD
  refine lv_aload_n hx hb dX7_goUnder_7 rfl (lv_at hl 0 rfl) ?_
  refine va_get (D := g.1) (ci := 7) (v := Value.ref h0_gu) (C := RX7) (T := TX7) (N := 10) hx hb hts inlX7 hown hK hP 0 rfl rfl 4 (by decide) (hts _ q7_12) (fun _ h9 => h9) rfl dX7_goUnder_8 ?_
  refine lv_iload_n hx hb dX7_goUnder_11 rfl (lv_at hl 2 rfl) ?_
  refine lv_iload_n hx hb dX7_goUnder_12 rfl (lv_at hl 1 rfl) ?_
  refine ia_st hx hb hK hP hD hS 2 1 rfl rfl (p1) rfl (by omega) (by decide) dX7_goUnder_13 (fun f2 H locs ef2 hP hD hS => ?_)
  have htf2 : TM 5 4 f2 := by rw [ef2]; exact TM_upd ht_h0_gu (XM_n (m := p0) (by omega))
  have hP : va_P g.1 vwCl [(h0, .inr (7, [h0_order, h0_reefs, h0_children, .ref h0_ho, .ref h0_gu, .int h0_up, .int (nI h0_standing), .int h0_day, .int h0_seed, .int h0_firstTrue])), (h0_ho, .inl (gI g, 5, .inl f1)), (h0_gu, .inl (gI g, 5, .inl f2))] H := hP
  have hD : va_D A [(h0, .inr (7, [h0_order, h0_reefs, h0_children, .ref h0_ho, .ref h0_gu, .int h0_up, .int (nI h0_standing), .int h0_day, .int h0_seed, .int h0_firstTrue])), (h0_ho, .inl (gI g, 5, .inl f1)), (h0_gu, .inl (gI g, 5, .inl f2))] := hD
  exact xv hx hb hr hlocks hP hD hS ⟨f1, f2, rfl, htf1, htf2⟩ (Nat.le_of_ble_eq_true rfl) (Nat.le_of_ble_eq_true rfl) dX7_goUnder_14

set_option maxHeartbeats 4000000 in
set_option maxRecDepth 100000 in
theorem c_X7_partFromHost {l : Launch} {g : Gx} {h0 h0_ho h0_gu : Nat} {h0_order : Value} {h0_reefs : Value} {h0_children : Value} {h0_up : Int32} {h0_standing : Nat} {h0_day : Int32} {h0_seed : Int32} {h0_firstTrue : Int32} {f_h0_ho : Nat → Int32} {f_h0_gu : Nat → Int32} {p0 : Nat} (hb_h0_standing : h0_standing ≤ 8) (ht_h0_ho : TM 5 4 f_h0_ho) (ht_h0_gu : TM 5 4 f_h0_gu) (hb_p0 : p0 ≤ 4) : MI l g yX7_partFromHost cX7_partFromHost 3 (some .int) 2 0 0 [.ref h0, .int (nI p0)] [(h0, .inr (7, [h0_order, h0_reefs, h0_children, .ref h0_ho, .ref h0_gu, .int h0_up, .int (nI h0_standing), .int h0_day, .int h0_seed, .int h0_firstTrue])), (h0_ho, .inl (gI g, 5, .inl f_h0_ho)), (h0_gu, .inl (gI g, 5, .inl f_h0_gu))] (fun r W' => XM 4 r ∧ ∃ (z0 : Nat → Int32) (z1 : Nat → Int32), W' = [(h0, .inr (7, [h0_order, h0_reefs, h0_children, .ref h0_ho, .ref h0_gu, .int h0_up, .int (nI h0_standing), .int h0_day, .int h0_seed, .int h0_firstTrue])), (h0_ho, .inl (gI g, 5, .inl z0)), (h0_gu, .inl (gI g, 5, .inl z1))] ∧ TM 5 4 z0 ∧ TM 5 4 z1) := by
  refine MIof (by decide) (Nat.le_of_ble_eq_true rfl) ?_
  intro p e s m below meth c A ls H locs hcx hA hP hD hS hl
  obtain ⟨hx, hb, hml, hr, hlocks, hown, hts, hE, hnm⟩ := id hcx
  have hown : s.vm.findClass RX7 = some m.cls := hown
  have hK := hE.1
  have hl : lv_has ls 3 [(0, .ref h0), (1, .int (nI p0))] := hl
  refine lv_aload_n hx hb dX7_partFromHost_0 rfl (lv_at hl 0 rfl) ?_
  refine va_get (D := g.1) (ci := 7) (v := Value.ref h0_ho) (C := RX7) (T := TX7) (N := 10) hx hb hts inlX7 hown hK hP 0 rfl rfl 3 (by decide) (hts _ q7_11) (fun _ h9 => h9) rfl dX7_partFromHost_1 ?_
  refine lv_iload_n hx hb dX7_partFromHost_4 rfl (lv_at hl 1 rfl) ?_
  refine ia_ld hx hb hK hP 1 1 rfl rfl (p0) rfl (by omega) (by decide) dX7_partFromHost_5 ?_
  obtain ⟨x2, ex2⟩ : ∃ y : Int32, y = f_h0_ho (p0) := ⟨_, rfl⟩
  have hx2 : XM 4 x2 := by rw [ex2]; exact ht_h0_ho (p0) (by omega)
  refine lv_tope ex2.symm ?_
  refine lv_istore_n (lv' := [(2, .int x2), (0, .ref h0), (1, .int (nI p0))]) hx hb dX7_partFromHost_6 rfl hl (by decide) rfl (fun ls hl => ?_)
  refine lv_iload_n hx hb dX7_partFromHost_7 rfl (lv_at hl 0 rfl) ?_
  refine lv_iconst (v := (-1)) hx hb dX7_partFromHost_8 (by decide) ?_
  refine lv_icmp_eq (tgt := 26) hx hb dX7_partFromHost_9 (by decide) (fun c3 => ?_) (fun c3 => ?_)
  · refine lv_iload_n hx hb dX7_partFromHost_26 rfl (lv_at hl 0 rfl) ?_
    exact xi hx hb hr hlocks rfl hP hD hS ⟨hx2, f_h0_ho, f_h0_gu, rfl, ht_h0_ho, ht_h0_gu⟩ (Nat.le_of_ble_eq_true rfl) (Nat.le_of_ble_eq_true rfl) dX7_partFromHost_27
  · obtain ⟨m4, hm4, em4⟩ := hx2.resolve_left c3
    subst em4
    refine lv_aload_n hx hb dX7_partFromHost_12 rfl (lv_at hl 1 rfl) ?_
    refine va_get (D := g.1) (ci := 7) (v := Value.ref h0_ho) (C := RX7) (T := TX7) (N := 10) hx hb hts inlX7 hown hK hP 0 rfl rfl 3 (by decide) (hts _ q7_11) (fun _ h9 => h9) rfl dX7_partFromHost_13 ?_
    refine lv_iload_n hx hb dX7_partFromHost_16 rfl (lv_at hl 2 rfl) ?_
    refine lv_iconst (v := (-1)) hx hb dX7_partFromHost_17 (by decide) ?_
    refine ia_st hx hb hK hP hD hS 1 1 rfl rfl (p0) rfl (by omega) (by decide) dX7_partFromHost_18 (fun f5 H locs ef5 hP hD hS => ?_)
    have htf5 : TM 5 4 f5 := by rw [ef5]; exact TM_upd ht_h0_ho XM_m1
    have hP : va_P g.1 vwCl [(h0, .inr (7, [h0_order, h0_reefs, h0_children, .ref h0_ho, .ref h0_gu, .int h0_up, .int (nI h0_standing), .int h0_day, .int h0_seed, .int h0_firstTrue])), (h0_ho, .inl (gI g, 5, .inl f5)), (h0_gu, .inl (gI g, 5, .inl f_h0_gu))] H := hP
    have hD : va_D A [(h0, .inr (7, [h0_order, h0_reefs, h0_children, .ref h0_ho, .ref h0_gu, .int h0_up, .int (nI h0_standing), .int h0_day, .int h0_seed, .int h0_firstTrue])), (h0_ho, .inl (gI g, 5, .inl f5)), (h0_gu, .inl (gI g, 5, .inl f_h0_gu))] := hD
    refine lv_aload_n hx hb dX7_partFromHost_19 rfl (lv_at hl 1 rfl) ?_
    refine va_get (D := g.1) (ci := 7) (v := Value.ref h0_gu) (C := RX7) (T := TX7) (N := 10) hx hb hts inlX7 hown hK hP 0 rfl rfl 4 (by decide) (hts _ q7_12) (fun _ h9 => h9) rfl dX7_partFromHost_20 ?_
    refine lv_iload_n hx hb dX7_partFromHost_23 rfl (lv_at hl 0 rfl) ?_
    refine lv_iconst (v := (-1)) hx hb dX7_partFromHost_24 (by decide) ?_
    refine ia_st hx hb hK hP hD hS 2 1 rfl rfl (m4) rfl (by omega) (by decide) dX7_partFromHost_25 (fun f6 H locs ef6 hP hD hS => ?_)
    have htf6 : TM 5 4 f6 := by rw [ef6]; exact TM_upd ht_h0_gu XM_m1
    have hP : va_P g.1 vwCl [(h0, .inr (7, [h0_order, h0_reefs, h0_children, .ref h0_ho, .ref h0_gu, .int h0_up, .int (nI h0_standing), .int h0_day, .int h0_seed, .int h0_firstTrue])), (h0_ho, .inl (gI g, 5, .inl f5)), (h0_gu, .inl (gI g, 5, .inl f6))] H := hP
    have hD : va_D A [(h0, .inr (7, [h0_order, h0_reefs, h0_children, .ref h0_ho, .ref h0_gu, .int h0_up, .int (nI h0_standing), .int h0_day, .int h0_seed, .int h0_firstTrue])), (h0_ho, .inl (gI g, 5, .inl f5)), (h0_gu, .inl (gI g, 5, .inl f6))] := hD
    refine lv_iload_n hx hb dX7_partFromHost_26 rfl (lv_at hl 0 rfl) ?_
    exact xi hx hb hr hlocks rfl hP hD hS ⟨(XM_n (m := m4) (by omega)), f5, f6, rfl, htf5, htf6⟩ (Nat.le_of_ble_eq_true rfl) (Nat.le_of_ble_eq_true rfl) dX7_partFromHost_27

set_option maxHeartbeats 4000000 in
set_option maxRecDepth 100000 in
theorem c_X7_bannerOf {l : Launch} {g : Gx} {h0 h0_ho : Nat} {h0_order : Value} {h0_reefs : Value} {h0_children : Value} {h0_guests : Value} {h0_up : Int32} {h0_standing : Nat} {h0_day : Int32} {h0_seed : Int32} {h0_firstTrue : Int32} {f_h0_ho : Nat → Int32} {p0 : Nat} (hb_h0_standing : h0_standing ≤ 8) (ht_h0_ho : TM 5 4 f_h0_ho) (hb_p0 : p0 ≤ 4) : MI l g yX7_bannerOf cX7_bannerOf 2 (some .int) 2 0 0 [.ref h0, .int (nI p0)] [(h0, .inr (7, [h0_order, h0_reefs, h0_children, .ref h0_ho, h0_guests, .int h0_up, .int (nI h0_standing), .int h0_day, .int h0_seed, .int h0_firstTrue])), (h0_ho, .inl (gI g, 5, .inl f_h0_ho))] (fun r W' => (∃ m : Nat, m ≤ 4 ∧ nI m = r) ∧ W' = [(h0, .inr (7, [h0_order, h0_reefs, h0_children, .ref h0_ho, h0_guests, .int h0_up, .int (nI h0_standing), .int h0_day, .int h0_seed, .int h0_firstTrue])), (h0_ho, .inl (gI g, 5, .inl f_h0_ho))]) := by
  refine MIof (by decide) (Nat.le_of_ble_eq_true rfl) ?_
  intro p e s m below meth c A ls H locs hcx hA hP hD hS hl
  obtain ⟨hx, hb, hml, hr, hlocks, hown, hts, hE, hnm⟩ := id hcx
  have hown : s.vm.findClass RX7 = some m.cls := hown
  have hK := hE.1
  have hl : lv_has ls 2 [(0, .ref h0), (1, .int (nI p0))] := hl
  refine lv_aload_n hx hb dX7_bannerOf_0 rfl (lv_at hl 0 rfl) ?_
  refine va_get (D := g.1) (ci := 7) (v := Value.ref h0_ho) (C := RX7) (T := TX7) (N := 10) hx hb hts inlX7 hown hK hP 0 rfl rfl 3 (by decide) (hts _ q7_11) (fun _ h9 => h9) rfl dX7_bannerOf_1 ?_
  refine lv_iload_n hx hb dX7_bannerOf_4 rfl (lv_at hl 1 rfl) ?_
  refine ia_ld hx hb hK hP 1 1 rfl rfl (p0) rfl (by omega) (by decide) dX7_bannerOf_5 ?_
  obtain ⟨x2, ex2⟩ : ∃ y : Int32, y = f_h0_ho (p0) := ⟨_, rfl⟩
  have hx2 : XM 4 x2 := by rw [ex2]; exact ht_h0_ho (p0) (by omega)
  refine lv_tope ex2.symm ?_
  refine lv_iconst (v := (-1)) hx hb dX7_bannerOf_6 (by decide) ?_
  refine lv_icmp_ne (tgt := 14) hx hb dX7_bannerOf_7 (by decide) (fun c3 => ?_) (fun c3 => ?_)
  · obtain ⟨m4, hm4, em4⟩ := hx2.resolve_left c3
    subst em4
    refine lv_aload_n hx hb dX7_bannerOf_14 rfl (lv_at hl 0 rfl) ?_
    refine va_get (D := g.1) (ci := 7) (v := Value.ref h0_ho) (C := RX7) (T := TX7) (N := 10) hx hb hts inlX7 hown hK hP 0 rfl rfl 3 (by decide) (hts _ q7_11) (fun _ h9 => h9) rfl dX7_bannerOf_15 ?_
    refine lv_iload_n hx hb dX7_bannerOf_18 rfl (lv_at hl 1 rfl) ?_
    refine ia_ld hx hb hK hP 1 1 rfl rfl (p0) rfl (by omega) (by decide) dX7_bannerOf_19 ?_
    refine lv_tope ex2.symm ?_
    exact xi hx hb hr hlocks rfl hP hD hS ⟨⟨m4, by omega, rfl⟩, rfl⟩ (Nat.le_of_ble_eq_true rfl) (Nat.le_of_ble_eq_true rfl) dX7_bannerOf_20
  · refine lv_iload_n hx hb dX7_bannerOf_10 rfl (lv_at hl 1 rfl) ?_
    refine lv_goto (tgt := 20) hx hb dX7_bannerOf_11 (by decide) ?_
    exact xi hx hb hr hlocks rfl hP hD hS ⟨⟨p0, by omega, rfl⟩, rfl⟩ (Nat.le_of_ble_eq_true rfl) (Nat.le_of_ble_eq_true rfl) dX7_bannerOf_20

set_option maxHeartbeats 4000000 in
set_option maxRecDepth 100000 in
theorem c_X7_placeOf {l : Launch} {g : Gx} {h0 h0_or : Nat} {h0_reefs : Value} {h0_children : Value} {h0_hosts : Value} {h0_guests : Value} {h0_up : Int32} {h0_standing : Nat} {h0_day : Int32} {h0_seed : Int32} {h0_firstTrue : Int32} {f_h0_or : Nat → Int32} {p0 : Int32} (hb_h0_standing : h0_standing ≤ 8) (ht_h0_or : TN 5 4 f_h0_or) : MI l g yX7_placeOf cX7_placeOf 3 (some .int) 2 0 0 [.ref h0, .int p0] [(h0, .inr (7, [.ref h0_or, h0_reefs, h0_children, h0_hosts, h0_guests, .int h0_up, .int (nI h0_standing), .int h0_day, .int h0_seed, .int h0_firstTrue])), (h0_or, .inl (gI g, 5, .inl f_h0_or))] (fun r W' => XM 4 r ∧ W' = [(h0, .inr (7, [.ref h0_or, h0_reefs, h0_children, h0_hosts, h0_guests, .int h0_up, .int (nI h0_standing), .int h0_day, .int h0_seed, .int h0_firstTrue])), (h0_or, .inl (gI g, 5, .inl f_h0_or))]) := by
  refine MIof (by decide) (Nat.le_of_ble_eq_true rfl) ?_
  intro p e s m below meth c A ls H locs hcx hA hP hD hS hl
  obtain ⟨hx, hb, hml, hr, hlocks, hown, hts, hE, hnm⟩ := id hcx
  have hown : s.vm.findClass RX7 = some m.cls := hown
  have hK := hE.1
  have hl : lv_has ls 3 [(0, .ref h0), (1, .int p0)] := hl
  refine lv_iconst (v := 0) hx hb dX7_placeOf_0 (by decide) ?_
  refine lv_istore_n (lv' := [(2, .int 0), (0, .ref h0), (1, .int p0)]) hx hb dX7_placeOf_1 rfl hl (by decide) rfl (fun ls hl => ?_)
  have loop2 : ∀ (n k1 : Nat), k1 + n = 5 → ∀ (H : Heap) (locs : List Loc) (ls : Array Slot), va_P g.1 vwCl [(h0, .inr (7, [.ref h0_or, h0_reefs, h0_children, h0_hosts, h0_guests, .int h0_up, .int (nI h0_standing), .int h0_day, .int h0_seed, .int h0_firstTrue])), (h0_or, .inl (gI g, 5, .inl f_h0_or))] H → va_D A [(h0, .inr (7, [.ref h0_or, h0_reefs, h0_children, h0_hosts, h0_guests, .int h0_up, .int (nI h0_standing), .int h0_day, .int h0_seed, .int h0_firstTrue])), (h0_or, .inl (gI g, 5, .inl f_h0_or))] → va_S A s.heap H locs → lv_has ls 3 [(2, .int (nI k1)), (0, .ref h0), (1, .int p0)] → W p l e (rmD 2 0 0) s m ([Value.ref h0, Value.int p0] : List Value).toArray below meth c H locs 0 0 (MQ below (QI g A (fun r W' => XM 4 r ∧ W' = [(h0, .inr (7, [.ref h0_or, h0_reefs, h0_children, h0_hosts, h0_guests, .int h0_up, .int (nI h0_standing), .int h0_day, .int h0_seed, .int h0_firstTrue])), (h0_or, .inl (gI g, 5, .inl f_h0_or))])) ([Value.ref h0, Value.int p0] : List Value).toArray s 0 0 A) (F0 m 2 ls []) := by
    intro n
    induction n with
    | zero =>
      intro k1 hkk1 H locs ls hP hD hS hl
      have hNk1 : 5 = k1 := by omega
      subst hNk1
      refine lv_iload_n hx hb dX7_placeOf_2 rfl (lv_at hl 0 rfl) ?_
      refine lv_iconst (v := 5) hx hb dX7_placeOf_3 (by decide) ?_
      refine lv_icmp_ge (tgt := 25) hx hb dX7_placeOf_4 (by decide) (fun _ => ?_) (fun c3 => absurd (by decide) c3)
      refine lv_iconst (v := (-1)) hx hb dX7_placeOf_25 (by decide) ?_
      exact xi hx hb hr hlocks rfl hP hD hS ⟨XM_m1, rfl⟩ (Nat.le_of_ble_eq_true rfl) (Nat.le_of_ble_eq_true rfl) dX7_placeOf_26
    | succ n ihk1 =>
      intro k1 hkk1 H locs ls hP hD hS hl
      have hNk1 : k1 < 5 := by omega
      refine lv_iload_n hx hb dX7_placeOf_2 rfl (lv_at hl 0 rfl) ?_
      refine lv_iconst (v := 5) hx hb dX7_placeOf_3 (by decide) ?_
      refine lv_icmp_ge (tgt := 25) hx hb dX7_placeOf_4 (by decide) (fun c4 => absurd c4 (nI_ge (a := k1) (b := 5) (by omega) (by omega))) (fun _ => ?_)
      refine lv_aload_n hx hb dX7_placeOf_7 rfl (lv_at hl 1 rfl) ?_
      refine va_get (D := g.1) (ci := 7) (v := Value.ref h0_or) (C := RX7) (T := TX7) (N := 10) hx hb hts inlX7 hown hK hP 0 rfl rfl 0 (by decide) (hts _ q7_8) (fun _ h9 => h9) rfl dX7_placeOf_8 ?_
      refine lv_iload_n hx hb dX7_placeOf_11 rfl (lv_at hl 0 rfl) ?_
      refine ia_ld hx hb hK hP 1 1 rfl rfl (k1) rfl (by omega) (by decide) dX7_placeOf_12 ?_
      obtain ⟨m5, hm5, em5⟩ := ht_h0_or (k1) (by omega)
      refine lv_tope em5 ?_
      refine lv_iload_n hx hb dX7_placeOf_13 rfl (lv_at hl 2 rfl) ?_
      refine lv_icmp_ne (tgt := 19) hx hb dX7_placeOf_14 (by decide) (fun c6 => ?_) (fun c6 => ?_)
      · refine lv_iinc (v := (nI (k1 + 1))) (lv' := [(2, .int (nI (k1 + 1))), (0, .ref h0), (1, .int p0)]) hx hb dX7_placeOf_19 hl (k := 0) rfl (nI_1 _) (by decide) rfl (fun ls hl => ?_)
        refine lv_goto (tgt := 2) hx hb dX7_placeOf_22 (by decide) ?_
        exact ihk1 (k1 + 1) (by omega) H locs ls hP hD hS (lv_sub hl [0, 1, 2] rfl)
      · refine lv_iload_n hx hb dX7_placeOf_17 rfl (lv_at hl 0 rfl) ?_
        exact xi hx hb hr hlocks rfl hP hD hS ⟨(XM_n (m := k1) (by omega)), rfl⟩ (Nat.le_of_ble_eq_true rfl) (Nat.le_of_ble_eq_true rfl) dX7_placeOf_18
  exact loop2 (5 - (0)) (0) (by omega) H locs ls hP hD hS hl

set_option maxHeartbeats 4000000 in
set_option maxRecDepth 100000 in
theorem c_X7_lower {l : Launch} {g : Gx} {h0 h0_gu : Nat} {h0_order : Value} {h0_reefs : Value} {h0_children : Value} {h0_hosts : Value} {h0_up : Int32} {h0_standing : Nat} {h0_day : Int32} {h0_seed : Int32} {h0_firstTrue : Int32} {f_h0_gu : Nat → Int32} {p0 : Nat} (hb_h0_standing : h0_standing ≤ 8) (ht_h0_gu : TM 5 4 f_h0_gu) (hb_p0 : p0 ≤ 4) : MI l g yX7_lower cX7_lower 3 (some .int) 2 0 0 [.ref h0, .int (nI p0)] [(h0, .inr (7, [h0_order, h0_reefs, h0_children, h0_hosts, .ref h0_gu, .int h0_up, .int (nI h0_standing), .int h0_day, .int h0_seed, .int h0_firstTrue])), (h0_gu, .inl (gI g, 5, .inl f_h0_gu))] (fun r W' => True ∧ ∃ (z0 : Int32), W' = [(h0, .inr (7, [h0_order, h0_reefs, h0_children, h0_hosts, .ref h0_gu, .int z0, .int (nI h0_standing), .int h0_day, .int h0_seed, .int h0_firstTrue])), (h0_gu, .inl (gI g, 5, .inl f_h0_gu))]) := by
  refine MIof (by decide) (Nat.le_of_ble_eq_true rfl) ?_
  intro p e s m below meth c A ls H locs hcx hA hP hD hS hl
  obtain ⟨hx, hb, hml, hr, hlocks, hown, hts, hE, hnm⟩ := id hcx
  have hown : s.vm.findClass RX7 = some m.cls := hown
  have hK := hE.1
  have hl : lv_has ls 3 [(0, .ref h0), (1, .int (nI p0))] := hl
  refine lv_iconst (v := 1) hx hb dX7_lower_0 (by decide) ?_
  refine lv_iload_n hx hb dX7_lower_1 rfl (lv_at hl 1 rfl) ?_
  refine lv_ishl hx hb dX7_lower_2 ?_
  refine lv_topi (fun x1 ex1 => ?_)
  refine lv_istore_n (lv' := [(2, .int x1), (0, .ref h0), (1, .int (nI p0))]) hx hb dX7_lower_3 rfl hl (by decide) rfl (fun ls hl => ?_)
  refine lv_aload_n hx hb dX7_lower_4 rfl (lv_at hl 1 rfl) ?_
  refine va_get (D := g.1) (ci := 7) (v := Value.ref h0_gu) (C := RX7) (T := TX7) (N := 10) hx hb hts inlX7 hown hK hP 0 rfl rfl 4 (by decide) (hts _ q7_12) (fun _ h9 => h9) rfl dX7_lower_5 ?_
  refine lv_iload_n hx hb dX7_lower_8 rfl (lv_at hl 2 rfl) ?_
  refine ia_ld hx hb hK hP 1 1 rfl rfl (p0) rfl (by omega) (by decide) dX7_lower_9 ?_
  obtain ⟨x3, ex3⟩ : ∃ y : Int32, y = f_h0_gu (p0) := ⟨_, rfl⟩
  have hx3 : XM 4 x3 := by rw [ex3]; exact ht_h0_gu (p0) (by omega)
  refine lv_tope ex3.symm ?_
  refine lv_iconst (v := (-1)) hx hb dX7_lower_10 (by decide) ?_
  refine lv_icmp_eq (tgt := 25) hx hb dX7_lower_11 (by decide) (fun c4 => ?_) (fun c4 => ?_)
  · refine lv_aload_n hx hb dX7_lower_25 rfl (lv_at hl 1 rfl) ?_
    refine lv_dup hx hb dX7_lower_26 rfl ?_
    refine va_get (D := g.1) (ci := 7) (v := Value.int h0_up) (C := RX7) (T := TX7) (N := 10) hx hb hts inlX7 hown hK hP 0 rfl rfl 5 (by decide) (hts _ q10_22) (fun _ h9 => h9) rfl dX7_lower_27 ?_
    refine lv_iload_n hx hb dX7_lower_30 rfl (lv_at hl 0 rfl) ?_
    refine lv_iconst (v := (-1)) hx hb dX7_lower_31 (by decide) ?_
    refine lv_ixor hx hb dX7_lower_32 ?_
    refine lv_topi (fun x5 ex5 => ?_)
    refine lv_iand hx hb dX7_lower_33 ?_
    refine lv_topi (fun x6 ex6 => ?_)
    refine va_put (D := g.1) (ci := 7) (v := Value.int x6) (ty := .int) (C := RX7) (T := TX7) (N := 10) hx hb hts inlX7 tyX7 tyX7_ok nmX7 hown hK hP hD hS 0 rfl rfl 5 (by decide) (hts _ q10_22) (fun _ h9 => h9) rfl (by decide +kernel) rfl rfl (Nat.le_of_ble_eq_true rfl) dX7_lower_34 (fun H locs hP hD hS => ?_)
    have hP : va_P g.1 vwCl [(h0, .inr (7, [h0_order, h0_reefs, h0_children, h0_hosts, .ref h0_gu, .int x6, .int (nI h0_standing), .int h0_day, .int h0_seed, .int h0_firstTrue])), (h0_gu, .inl (gI g, 5, .inl f_h0_gu))] H := hP
    have hD : va_D A [(h0, .inr (7, [h0_order, h0_reefs, h0_children, h0_hosts, .ref h0_gu, .int x6, .int (nI h0_standing), .int h0_day, .int h0_seed, .int h0_firstTrue])), (h0_gu, .inl (gI g, 5, .inl f_h0_gu))] := hD
    refine lv_iload_n hx hb dX7_lower_37 rfl (lv_at hl 0 rfl) ?_
    exact xi hx hb hr hlocks rfl hP hD hS ⟨trivial, (x6), rfl⟩ (Nat.le_of_ble_eq_true rfl) (Nat.le_of_ble_eq_true rfl) dX7_lower_38
  · obtain ⟨m7, hm7, em7⟩ := hx3.resolve_left c4
    subst em7
    refine lv_iload_n hx hb dX7_lower_14 rfl (lv_at hl 0 rfl) ?_
    refine lv_iconst (v := 1) hx hb dX7_lower_15 (by decide) ?_
    refine lv_aload_n hx hb dX7_lower_16 rfl (lv_at hl 1 rfl) ?_
    refine va_get (D := g.1) (ci := 7) (v := Value.ref h0_gu) (C := RX7) (T := TX7) (N := 10) hx hb hts inlX7 hown hK hP 0 rfl rfl 4 (by decide) (hts _ q7_12) (fun _ h9 => h9) rfl dX7_lower_17 ?_
    refine lv_iload_n hx hb dX7_lower_20 rfl (lv_at hl 2 rfl) ?_
    refine ia_ld hx hb hK hP 1 1 rfl rfl (p0) rfl (by omega) (by decide) dX7_lower_21 ?_
    refine lv_tope ex3.symm ?_
    refine lv_ishl hx hb dX7_lower_22 ?_
    refine lv_topi (fun x8 ex8 => ?_)
    refine lv_ior hx hb dX7_lower_23 ?_
    refine lv_topi (fun x9 ex9 => ?_)
    refine lv_istore_n (lv' := [(2, .int x9), (0, .ref h0), (1, .int (nI p0))]) hx hb dX7_lower_24 rfl hl (by decide) rfl (fun ls hl => ?_)
    refine lv_aload_n hx hb dX7_lower_25 rfl (lv_at hl 1 rfl) ?_
    refine lv_dup hx hb dX7_lower_26 rfl ?_
    refine va_get (D := g.1) (ci := 7) (v := Value.int h0_up) (C := RX7) (T := TX7) (N := 10) hx hb hts inlX7 hown hK hP 0 rfl rfl 5 (by decide) (hts _ q10_22) (fun _ h9 => h9) rfl dX7_lower_27 ?_
    refine lv_iload_n hx hb dX7_lower_30 rfl (lv_at hl 0 rfl) ?_
    refine lv_iconst (v := (-1)) hx hb dX7_lower_31 (by decide) ?_
    refine lv_ixor hx hb dX7_lower_32 ?_
    refine lv_topi (fun x10 ex10 => ?_)
    refine lv_iand hx hb dX7_lower_33 ?_
    refine lv_topi (fun x11 ex11 => ?_)
    refine va_put (D := g.1) (ci := 7) (v := Value.int x11) (ty := .int) (C := RX7) (T := TX7) (N := 10) hx hb hts inlX7 tyX7 tyX7_ok nmX7 hown hK hP hD hS 0 rfl rfl 5 (by decide) (hts _ q10_22) (fun _ h9 => h9) rfl (by decide +kernel) rfl rfl (Nat.le_of_ble_eq_true rfl) dX7_lower_34 (fun H locs hP hD hS => ?_)
    have hP : va_P g.1 vwCl [(h0, .inr (7, [h0_order, h0_reefs, h0_children, h0_hosts, .ref h0_gu, .int x11, .int (nI h0_standing), .int h0_day, .int h0_seed, .int h0_firstTrue])), (h0_gu, .inl (gI g, 5, .inl f_h0_gu))] H := hP
    have hD : va_D A [(h0, .inr (7, [h0_order, h0_reefs, h0_children, h0_hosts, .ref h0_gu, .int x11, .int (nI h0_standing), .int h0_day, .int h0_seed, .int h0_firstTrue])), (h0_gu, .inl (gI g, 5, .inl f_h0_gu))] := hD
    refine lv_iload_n hx hb dX7_lower_37 rfl (lv_at hl 0 rfl) ?_
    exact xi hx hb hr hlocks rfl hP hD hS ⟨trivial, (x11), rfl⟩ (Nat.le_of_ble_eq_true rfl) (Nat.le_of_ble_eq_true rfl) dX7_lower_38

set_option maxHeartbeats 4000000 in
set_option maxRecDepth 100000 in
theorem c_X7_copyFrom {l : Launch} {g : Gx} {h0 h1 h0_or h0_re h0_ch h0_ho h0_gu h1_or h1_re h1_ch h1_ho h1_gu : Nat} {h0_up : Int32} {h0_standing : Nat} {h0_day : Int32} {h0_seed : Int32} {h0_firstTrue : Int32} {f_h0_or : Nat → Int32} {f_h0_re : Nat → Int32} {f_h0_ch : Nat → Int32} {f_h0_ho : Nat → Int32} {f_h0_gu : Nat → Int32} {h1_up : Int32} {h1_standing : Nat} {h1_day : Int32} {h1_seed : Int32} {h1_firstTrue : Int32} {f_h1_or : Nat → Int32} {f_h1_re : Nat → Int32} {f_h1_ch : Nat → Int32} {f_h1_ho : Nat → Int32} {f_h1_gu : Nat → Int32} (hb_h0_standing : h0_standing ≤ 8) (ht_h0_or : TN 5 4 f_h0_or) (ht_h0_ho : TM 5 4 f_h0_ho) (ht_h0_gu : TM 5 4 f_h0_gu) (hb_h1_standing : h1_standing ≤ 8) (ht_h1_or : TN 5 4 f_h1_or) (ht_h1_ho : TM 5 4 f_h1_ho) (ht_h1_gu : TM 5 4 f_h1_gu) : MV l g yX7_copyFrom cX7_copyFrom 3 2 0 0 [.ref h0, .ref h1] [(h0, .inr (7, [.ref h0_or, .ref h0_re, .ref h0_ch, .ref h0_ho, .ref h0_gu, .int h0_up, .int (nI h0_standing), .int h0_day, .int h0_seed, .int h0_firstTrue])), (h0_or, .inl (gI g, 5, .inl f_h0_or)), (h0_re, .inl (gI g, 5, .inl f_h0_re)), (h0_ch, .inl (gI g, 5, .inl f_h0_ch)), (h0_ho, .inl (gI g, 5, .inl f_h0_ho)), (h0_gu, .inl (gI g, 5, .inl f_h0_gu)), (h1, .inr (7, [.ref h1_or, .ref h1_re, .ref h1_ch, .ref h1_ho, .ref h1_gu, .int h1_up, .int (nI h1_standing), .int h1_day, .int h1_seed, .int h1_firstTrue])), (h1_or, .inl (gI g, 5, .inl f_h1_or)), (h1_re, .inl (gI g, 5, .inl f_h1_re)), (h1_ch, .inl (gI g, 5, .inl f_h1_ch)), (h1_ho, .inl (gI g, 5, .inl f_h1_ho)), (h1_gu, .inl (gI g, 5, .inl f_h1_gu))] (fun W' => ∃ (z0 : Nat → Int32) (z1 : Nat → Int32) (z2 : Nat → Int32) (z3 : Nat → Int32) (z4 : Nat → Int32), W' = [(h0, .inr (7, [.ref h0_or, .ref h0_re, .ref h0_ch, .ref h0_ho, .ref h0_gu, .int h1_up, .int (nI h1_standing), .int h1_day, .int h1_seed, .int h1_firstTrue])), (h0_or, .inl (gI g, 5, .inl z0)), (h0_re, .inl (gI g, 5, .inl z1)), (h0_ch, .inl (gI g, 5, .inl z2)), (h0_ho, .inl (gI g, 5, .inl z3)), (h0_gu, .inl (gI g, 5, .inl z4)), (h1, .inr (7, [.ref h1_or, .ref h1_re, .ref h1_ch, .ref h1_ho, .ref h1_gu, .int h1_up, .int (nI h1_standing), .int h1_day, .int h1_seed, .int h1_firstTrue])), (h1_or, .inl (gI g, 5, .inl f_h1_or)), (h1_re, .inl (gI g, 5, .inl f_h1_re)), (h1_ch, .inl (gI g, 5, .inl f_h1_ch)), (h1_ho, .inl (gI g, 5, .inl f_h1_ho)), (h1_gu, .inl (gI g, 5, .inl f_h1_gu))] ∧ TN 5 4 z0 ∧ TM 5 4 z3 ∧ TM 5 4 z4) := by
  refine MVof (by decide) (Nat.le_of_ble_eq_true rfl) ?_
  intro p e s m below meth c A ls H locs hcx hA hP hD hS hl
  obtain ⟨hx, hb, hml, hr, hlocks, hown, hts, hE, hnm⟩ := id hcx
  have hown : s.vm.findClass RX7 = some m.cls := hown
  have hK := hE.1
  have hl : lv_has ls 3 [(0, .ref h0), (1, .ref h1)] := hl
  refine lv_iconst (v := 0) hx hb dX7_copyFrom_0 (by decide) ?_
  refine lv_istore_n (lv' := [(2, .int 0), (0, .ref h0), (1, .ref h1)]) hx hb dX7_copyFrom_1 rfl hl (by decide) rfl (fun ls hl => ?_)
  have loop7 : ∀ (n k1 : Nat), k1 + n = 5 → ∀ (H : Heap) (locs : List Loc) (ls : Array Slot) (f2 : Nat → Int32) (f3 : Nat → Int32) (f4 : Nat → Int32) (f5 : Nat → Int32) (f6 : Nat → Int32), (TN 5 4 f2) → (TM 5 4 f5) → (TM 5 4 f6) → va_P g.1 vwCl [(h0, .inr (7, [.ref h0_or, .ref h0_re, .ref h0_ch, .ref h0_ho, .ref h0_gu, .int h0_up, .int (nI h0_standing), .int h0_day, .int h0_seed, .int h0_firstTrue])), (h0_or, .inl (gI g, 5, .inl f2)), (h0_re, .inl (gI g, 5, .inl f3)), (h0_ch, .inl (gI g, 5, .inl f4)), (h0_ho, .inl (gI g, 5, .inl f5)), (h0_gu, .inl (gI g, 5, .inl f6)), (h1, .inr (7, [.ref h1_or, .ref h1_re, .ref h1_ch, .ref h1_ho, .ref h1_gu, .int h1_up, .int (nI h1_standing), .int h1_day, .int h1_seed, .int h1_firstTrue])), (h1_or, .inl (gI g, 5, .inl f_h1_or)), (h1_re, .inl (gI g, 5, .inl f_h1_re)), (h1_ch, .inl (gI g, 5, .inl f_h1_ch)), (h1_ho, .inl (gI g, 5, .inl f_h1_ho)), (h1_gu, .inl (gI g, 5, .inl f_h1_gu))] H → va_D A [(h0, .inr (7, [.ref h0_or, .ref h0_re, .ref h0_ch, .ref h0_ho, .ref h0_gu, .int h0_up, .int (nI h0_standing), .int h0_day, .int h0_seed, .int h0_firstTrue])), (h0_or, .inl (gI g, 5, .inl f2)), (h0_re, .inl (gI g, 5, .inl f3)), (h0_ch, .inl (gI g, 5, .inl f4)), (h0_ho, .inl (gI g, 5, .inl f5)), (h0_gu, .inl (gI g, 5, .inl f6)), (h1, .inr (7, [.ref h1_or, .ref h1_re, .ref h1_ch, .ref h1_ho, .ref h1_gu, .int h1_up, .int (nI h1_standing), .int h1_day, .int h1_seed, .int h1_firstTrue])), (h1_or, .inl (gI g, 5, .inl f_h1_or)), (h1_re, .inl (gI g, 5, .inl f_h1_re)), (h1_ch, .inl (gI g, 5, .inl f_h1_ch)), (h1_ho, .inl (gI g, 5, .inl f_h1_ho)), (h1_gu, .inl (gI g, 5, .inl f_h1_gu))] → va_S A s.heap H locs → lv_has ls 3 [(2, .int (nI k1)), (0, .ref h0), (1, .ref h1)] → W p l e (rmD 2 0 0) s m ([Value.ref h0, Value.ref h1] : List Value).toArray below meth c H locs 0 0 (MQ below (QV g A (fun W' => ∃ (z0 : Nat → Int32) (z1 : Nat → Int32) (z2 : Nat → Int32) (z3 : Nat → Int32) (z4 : Nat → Int32), W' = [(h0, .inr (7, [.ref h0_or, .ref h0_re, .ref h0_ch, .ref h0_ho, .ref h0_gu, .int h1_up, .int (nI h1_standing), .int h1_day, .int h1_seed, .int h1_firstTrue])), (h0_or, .inl (gI g, 5, .inl z0)), (h0_re, .inl (gI g, 5, .inl z1)), (h0_ch, .inl (gI g, 5, .inl z2)), (h0_ho, .inl (gI g, 5, .inl z3)), (h0_gu, .inl (gI g, 5, .inl z4)), (h1, .inr (7, [.ref h1_or, .ref h1_re, .ref h1_ch, .ref h1_ho, .ref h1_gu, .int h1_up, .int (nI h1_standing), .int h1_day, .int h1_seed, .int h1_firstTrue])), (h1_or, .inl (gI g, 5, .inl f_h1_or)), (h1_re, .inl (gI g, 5, .inl f_h1_re)), (h1_ch, .inl (gI g, 5, .inl f_h1_ch)), (h1_ho, .inl (gI g, 5, .inl f_h1_ho)), (h1_gu, .inl (gI g, 5, .inl f_h1_gu))] ∧ TN 5 4 z0 ∧ TM 5 4 z3 ∧ TM 5 4 z4)) ([Value.ref h0, Value.ref h1] : List Value).toArray s 0 0 A) (F0 m 2 ls []) := by
    intro n
    induction n with
    | zero =>
      intro k1 hkk1 H locs ls f2 f3 f4 f5 f6 hf2 hf5 hf6 hP hD hS hl
      have hNk1 : 5 = k1 := by omega
      subst hNk1
      refine lv_iload_n hx hb dX7_copyFrom_2 rfl (lv_at hl 0 rfl) ?_
      refine lv_iconst (v := 5) hx hb dX7_copyFrom_3 (by decide) ?_
      refine lv_icmp_ge (tgt := 73) hx hb dX7_copyFrom_4 (by decide) (fun _ => ?_) (fun c8 => absurd (by decide) c8)
      refine lv_aload_n hx hb dX7_copyFrom_73 rfl (lv_at hl 1 rfl) ?_
      refine lv_aload_n hx hb dX7_copyFrom_74 rfl (lv_at hl 2 rfl) ?_
      refine va_get (D := g.1) (ci := 7) (v := Value.int h1_up) (C := RX7) (T := TX7) (N := 10) hx hb hts inlX7 hown hK hP 6 rfl rfl 5 (by decide) (hts _ q10_22) (fun _ h9 => h9) rfl dX7_copyFrom_75 ?_
      refine va_put (D := g.1) (ci := 7) (v := Value.int h1_up) (ty := .int) (C := RX7) (T := TX7) (N := 10) hx hb hts inlX7 tyX7 tyX7_ok nmX7 hown hK hP hD hS 0 rfl rfl 5 (by decide) (hts _ q10_22) (fun _ h9 => h9) rfl (by decide +kernel) rfl rfl (Nat.le_of_ble_eq_true rfl) dX7_copyFrom_78 (fun H locs hP hD hS => ?_)
      have hP : va_P g.1 vwCl [(h0, .inr (7, [.ref h0_or, .ref h0_re, .ref h0_ch, .ref h0_ho, .ref h0_gu, .int h1_up, .int (nI h0_standing), .int h0_day, .int h0_seed, .int h0_firstTrue])), (h0_or, .inl (gI g, 5, .inl f2)), (h0_re, .inl (gI g, 5, .inl f3)), (h0_ch, .inl (gI g, 5, .inl f4)), (h0_ho, .inl (gI g, 5, .inl f5)), (h0_gu, .inl (gI g, 5, .inl f6)), (h1, .inr (7, [.ref h1_or, .ref h1_re, .ref h1_ch, .ref h1_ho, .ref h1_gu, .int h1_up, .int (nI h1_standing), .int h1_day, .int h1_seed, .int h1_firstTrue])), (h1_or, .inl (gI g, 5, .inl f_h1_or)), (h1_re, .inl (gI g, 5, .inl f_h1_re)), (h1_ch, .inl (gI g, 5, .inl f_h1_ch)), (h1_ho, .inl (gI g, 5, .inl f_h1_ho)), (h1_gu, .inl (gI g, 5, .inl f_h1_gu))] H := hP
      have hD : va_D A [(h0, .inr (7, [.ref h0_or, .ref h0_re, .ref h0_ch, .ref h0_ho, .ref h0_gu, .int h1_up, .int (nI h0_standing), .int h0_day, .int h0_seed, .int h0_firstTrue])), (h0_or, .inl (gI g, 5, .inl f2)), (h0_re, .inl (gI g, 5, .inl f3)), (h0_ch, .inl (gI g, 5, .inl f4)), (h0_ho, .inl (gI g, 5, .inl f5)), (h0_gu, .inl (gI g, 5, .inl f6)), (h1, .inr (7, [.ref h1_or, .ref h1_re, .ref h1_ch, .ref h1_ho, .ref h1_gu, .int h1_up, .int (nI h1_standing), .int h1_day, .int h1_seed, .int h1_firstTrue])), (h1_or, .inl (gI g, 5, .inl f_h1_or)), (h1_re, .inl (gI g, 5, .inl f_h1_re)), (h1_ch, .inl (gI g, 5, .inl f_h1_ch)), (h1_ho, .inl (gI g, 5, .inl f_h1_ho)), (h1_gu, .inl (gI g, 5, .inl f_h1_gu))] := hD
      refine lv_aload_n hx hb dX7_copyFrom_81 rfl (lv_at hl 1 rfl) ?_
      refine lv_aload_n hx hb dX7_copyFrom_82 rfl (lv_at hl 2 rfl) ?_
      refine va_get (D := g.1) (ci := 7) (v := Value.int (nI h1_standing)) (C := RX7) (T := TX7) (N := 10) hx hb hts inlX7 hown hK hP 6 rfl rfl 6 (by decide) (hts _ q10_23) (fun _ h9 => h9) rfl dX7_copyFrom_83 ?_
      refine va_put (D := g.1) (ci := 7) (v := Value.int (nI h1_standing)) (ty := .int) (C := RX7) (T := TX7) (N := 10) hx hb hts inlX7 tyX7 tyX7_ok nmX7 hown hK hP hD hS 0 rfl rfl 6 (by decide) (hts _ q10_23) (fun _ h9 => h9) rfl (by decide +kernel) rfl rfl (Nat.le_of_ble_eq_true rfl) dX7_copyFrom_86 (fun H locs hP hD hS => ?_)
      have hP : va_P g.1 vwCl [(h0, .inr (7, [.ref h0_or, .ref h0_re, .ref h0_ch, .ref h0_ho, .ref h0_gu, .int h1_up, .int (nI h1_standing), .int h0_day, .int h0_seed, .int h0_firstTrue])), (h0_or, .inl (gI g, 5, .inl f2)), (h0_re, .inl (gI g, 5, .inl f3)), (h0_ch, .inl (gI g, 5, .inl f4)), (h0_ho, .inl (gI g, 5, .inl f5)), (h0_gu, .inl (gI g, 5, .inl f6)), (h1, .inr (7, [.ref h1_or, .ref h1_re, .ref h1_ch, .ref h1_ho, .ref h1_gu, .int h1_up, .int (nI h1_standing), .int h1_day, .int h1_seed, .int h1_firstTrue])), (h1_or, .inl (gI g, 5, .inl f_h1_or)), (h1_re, .inl (gI g, 5, .inl f_h1_re)), (h1_ch, .inl (gI g, 5, .inl f_h1_ch)), (h1_ho, .inl (gI g, 5, .inl f_h1_ho)), (h1_gu, .inl (gI g, 5, .inl f_h1_gu))] H := hP
      have hD : va_D A [(h0, .inr (7, [.ref h0_or, .ref h0_re, .ref h0_ch, .ref h0_ho, .ref h0_gu, .int h1_up, .int (nI h1_standing), .int h0_day, .int h0_seed, .int h0_firstTrue])), (h0_or, .inl (gI g, 5, .inl f2)), (h0_re, .inl (gI g, 5, .inl f3)), (h0_ch, .inl (gI g, 5, .inl f4)), (h0_ho, .inl (gI g, 5, .inl f5)), (h0_gu, .inl (gI g, 5, .inl f6)), (h1, .inr (7, [.ref h1_or, .ref h1_re, .ref h1_ch, .ref h1_ho, .ref h1_gu, .int h1_up, .int (nI h1_standing), .int h1_day, .int h1_seed, .int h1_firstTrue])), (h1_or, .inl (gI g, 5, .inl f_h1_or)), (h1_re, .inl (gI g, 5, .inl f_h1_re)), (h1_ch, .inl (gI g, 5, .inl f_h1_ch)), (h1_ho, .inl (gI g, 5, .inl f_h1_ho)), (h1_gu, .inl (gI g, 5, .inl f_h1_gu))] := hD
      refine lv_aload_n hx hb dX7_copyFrom_89 rfl (lv_at hl 1 rfl) ?_
      refine lv_aload_n hx hb dX7_copyFrom_90 rfl (lv_at hl 2 rfl) ?_
      refine va_get (D := g.1) (ci := 7) (v := Value.int h1_day) (C := RX7) (T := TX7) (N := 10) hx hb hts inlX7 hown hK hP 6 rfl rfl 7 (by decide) (hts _ q11_0) (fun _ h9 => h9) rfl dX7_copyFrom_91 ?_
      refine va_put (D := g.1) (ci := 7) (v := Value.int h1_day) (ty := .int) (C := RX7) (T := TX7) (N := 10) hx hb hts inlX7 tyX7 tyX7_ok nmX7 hown hK hP hD hS 0 rfl rfl 7 (by decide) (hts _ q11_0) (fun _ h9 => h9) rfl (by decide +kernel) rfl rfl (Nat.le_of_ble_eq_true rfl) dX7_copyFrom_94 (fun H locs hP hD hS => ?_)
      have hP : va_P g.1 vwCl [(h0, .inr (7, [.ref h0_or, .ref h0_re, .ref h0_ch, .ref h0_ho, .ref h0_gu, .int h1_up, .int (nI h1_standing), .int h1_day, .int h0_seed, .int h0_firstTrue])), (h0_or, .inl (gI g, 5, .inl f2)), (h0_re, .inl (gI g, 5, .inl f3)), (h0_ch, .inl (gI g, 5, .inl f4)), (h0_ho, .inl (gI g, 5, .inl f5)), (h0_gu, .inl (gI g, 5, .inl f6)), (h1, .inr (7, [.ref h1_or, .ref h1_re, .ref h1_ch, .ref h1_ho, .ref h1_gu, .int h1_up, .int (nI h1_standing), .int h1_day, .int h1_seed, .int h1_firstTrue])), (h1_or, .inl (gI g, 5, .inl f_h1_or)), (h1_re, .inl (gI g, 5, .inl f_h1_re)), (h1_ch, .inl (gI g, 5, .inl f_h1_ch)), (h1_ho, .inl (gI g, 5, .inl f_h1_ho)), (h1_gu, .inl (gI g, 5, .inl f_h1_gu))] H := hP
      have hD : va_D A [(h0, .inr (7, [.ref h0_or, .ref h0_re, .ref h0_ch, .ref h0_ho, .ref h0_gu, .int h1_up, .int (nI h1_standing), .int h1_day, .int h0_seed, .int h0_firstTrue])), (h0_or, .inl (gI g, 5, .inl f2)), (h0_re, .inl (gI g, 5, .inl f3)), (h0_ch, .inl (gI g, 5, .inl f4)), (h0_ho, .inl (gI g, 5, .inl f5)), (h0_gu, .inl (gI g, 5, .inl f6)), (h1, .inr (7, [.ref h1_or, .ref h1_re, .ref h1_ch, .ref h1_ho, .ref h1_gu, .int h1_up, .int (nI h1_standing), .int h1_day, .int h1_seed, .int h1_firstTrue])), (h1_or, .inl (gI g, 5, .inl f_h1_or)), (h1_re, .inl (gI g, 5, .inl f_h1_re)), (h1_ch, .inl (gI g, 5, .inl f_h1_ch)), (h1_ho, .inl (gI g, 5, .inl f_h1_ho)), (h1_gu, .inl (gI g, 5, .inl f_h1_gu))] := hD
      refine lv_aload_n hx hb dX7_copyFrom_97 rfl (lv_at hl 1 rfl) ?_
      refine lv_aload_n hx hb dX7_copyFrom_98 rfl (lv_at hl 2 rfl) ?_
      refine va_get (D := g.1) (ci := 7) (v := Value.int h1_seed) (C := RX7) (T := TX7) (N := 10) hx hb hts inlX7 hown hK hP 6 rfl rfl 8 (by decide) (hts _ q11_2) (fun _ h9 => h9) rfl dX7_copyFrom_99 ?_
      refine va_put (D := g.1) (ci := 7) (v := Value.int h1_seed) (ty := .int) (C := RX7) (T := TX7) (N := 10) hx hb hts inlX7 tyX7 tyX7_ok nmX7 hown hK hP hD hS 0 rfl rfl 8 (by decide) (hts _ q11_2) (fun _ h9 => h9) rfl (by decide +kernel) rfl rfl (Nat.le_of_ble_eq_true rfl) dX7_copyFrom_102 (fun H locs hP hD hS => ?_)
      have hP : va_P g.1 vwCl [(h0, .inr (7, [.ref h0_or, .ref h0_re, .ref h0_ch, .ref h0_ho, .ref h0_gu, .int h1_up, .int (nI h1_standing), .int h1_day, .int h1_seed, .int h0_firstTrue])), (h0_or, .inl (gI g, 5, .inl f2)), (h0_re, .inl (gI g, 5, .inl f3)), (h0_ch, .inl (gI g, 5, .inl f4)), (h0_ho, .inl (gI g, 5, .inl f5)), (h0_gu, .inl (gI g, 5, .inl f6)), (h1, .inr (7, [.ref h1_or, .ref h1_re, .ref h1_ch, .ref h1_ho, .ref h1_gu, .int h1_up, .int (nI h1_standing), .int h1_day, .int h1_seed, .int h1_firstTrue])), (h1_or, .inl (gI g, 5, .inl f_h1_or)), (h1_re, .inl (gI g, 5, .inl f_h1_re)), (h1_ch, .inl (gI g, 5, .inl f_h1_ch)), (h1_ho, .inl (gI g, 5, .inl f_h1_ho)), (h1_gu, .inl (gI g, 5, .inl f_h1_gu))] H := hP
      have hD : va_D A [(h0, .inr (7, [.ref h0_or, .ref h0_re, .ref h0_ch, .ref h0_ho, .ref h0_gu, .int h1_up, .int (nI h1_standing), .int h1_day, .int h1_seed, .int h0_firstTrue])), (h0_or, .inl (gI g, 5, .inl f2)), (h0_re, .inl (gI g, 5, .inl f3)), (h0_ch, .inl (gI g, 5, .inl f4)), (h0_ho, .inl (gI g, 5, .inl f5)), (h0_gu, .inl (gI g, 5, .inl f6)), (h1, .inr (7, [.ref h1_or, .ref h1_re, .ref h1_ch, .ref h1_ho, .ref h1_gu, .int h1_up, .int (nI h1_standing), .int h1_day, .int h1_seed, .int h1_firstTrue])), (h1_or, .inl (gI g, 5, .inl f_h1_or)), (h1_re, .inl (gI g, 5, .inl f_h1_re)), (h1_ch, .inl (gI g, 5, .inl f_h1_ch)), (h1_ho, .inl (gI g, 5, .inl f_h1_ho)), (h1_gu, .inl (gI g, 5, .inl f_h1_gu))] := hD
      refine lv_aload_n hx hb dX7_copyFrom_105 rfl (lv_at hl 1 rfl) ?_
      refine lv_aload_n hx hb dX7_copyFrom_106 rfl (lv_at hl 2 rfl) ?_
      refine va_get (D := g.1) (ci := 7) (v := Value.int h1_firstTrue) (C := RX7) (T := TX7) (N := 10) hx hb hts inlX7 hown hK hP 6 rfl rfl 9 (by decide) (hts _ q11_4) (fun _ h9 => h9) rfl dX7_copyFrom_107 ?_
      refine va_put (D := g.1) (ci := 7) (v := Value.int h1_firstTrue) (ty := .int) (C := RX7) (T := TX7) (N := 10) hx hb hts inlX7 tyX7 tyX7_ok nmX7 hown hK hP hD hS 0 rfl rfl 9 (by decide) (hts _ q11_4) (fun _ h9 => h9) rfl (by decide +kernel) rfl rfl (Nat.le_of_ble_eq_true rfl) dX7_copyFrom_110 (fun H locs hP hD hS => ?_)
      have hP : va_P g.1 vwCl [(h0, .inr (7, [.ref h0_or, .ref h0_re, .ref h0_ch, .ref h0_ho, .ref h0_gu, .int h1_up, .int (nI h1_standing), .int h1_day, .int h1_seed, .int h1_firstTrue])), (h0_or, .inl (gI g, 5, .inl f2)), (h0_re, .inl (gI g, 5, .inl f3)), (h0_ch, .inl (gI g, 5, .inl f4)), (h0_ho, .inl (gI g, 5, .inl f5)), (h0_gu, .inl (gI g, 5, .inl f6)), (h1, .inr (7, [.ref h1_or, .ref h1_re, .ref h1_ch, .ref h1_ho, .ref h1_gu, .int h1_up, .int (nI h1_standing), .int h1_day, .int h1_seed, .int h1_firstTrue])), (h1_or, .inl (gI g, 5, .inl f_h1_or)), (h1_re, .inl (gI g, 5, .inl f_h1_re)), (h1_ch, .inl (gI g, 5, .inl f_h1_ch)), (h1_ho, .inl (gI g, 5, .inl f_h1_ho)), (h1_gu, .inl (gI g, 5, .inl f_h1_gu))] H := hP
      have hD : va_D A [(h0, .inr (7, [.ref h0_or, .ref h0_re, .ref h0_ch, .ref h0_ho, .ref h0_gu, .int h1_up, .int (nI h1_standing), .int h1_day, .int h1_seed, .int h1_firstTrue])), (h0_or, .inl (gI g, 5, .inl f2)), (h0_re, .inl (gI g, 5, .inl f3)), (h0_ch, .inl (gI g, 5, .inl f4)), (h0_ho, .inl (gI g, 5, .inl f5)), (h0_gu, .inl (gI g, 5, .inl f6)), (h1, .inr (7, [.ref h1_or, .ref h1_re, .ref h1_ch, .ref h1_ho, .ref h1_gu, .int h1_up, .int (nI h1_standing), .int h1_day, .int h1_seed, .int h1_firstTrue])), (h1_or, .inl (gI g, 5, .inl f_h1_or)), (h1_re, .inl (gI g, 5, .inl f_h1_re)), (h1_ch, .inl (gI g, 5, .inl f_h1_ch)), (h1_ho, .inl (gI g, 5, .inl f_h1_ho)), (h1_gu, .inl (gI g, 5, .inl f_h1_gu))] := hD
      exact xv hx hb hr hlocks hP hD hS ⟨f2, f3, f4, f5, f6, rfl, hf2, hf5, hf6⟩ (Nat.le_of_ble_eq_true rfl) (Nat.le_of_ble_eq_true rfl) dX7_copyFrom_113
    | succ n ihk1 =>
      intro k1 hkk1 H locs ls f2 f3 f4 f5 f6 hf2 hf5 hf6 hP hD hS hl
      have hNk1 : k1 < 5 := by omega
      refine lv_iload_n hx hb dX7_copyFrom_2 rfl (lv_at hl 0 rfl) ?_
      refine lv_iconst (v := 5) hx hb dX7_copyFrom_3 (by decide) ?_
      refine lv_icmp_ge (tgt := 73) hx hb dX7_copyFrom_4 (by decide) (fun c9 => absurd c9 (nI_ge (a := k1) (b := 5) (by omega) (by omega))) (fun _ => ?_)
      refine lv_aload_n hx hb dX7_copyFrom_7 rfl (lv_at hl 1 rfl) ?_
      refine va_get (D := g.1) (ci := 7) (v := Value.ref h0_or) (C := RX7) (T := TX7) (N := 10) hx hb hts inlX7 hown hK hP 0 rfl rfl 0 (by decide) (hts _ q7_8) (fun _ h9 => h9) rfl dX7_copyFrom_8 ?_
      refine lv_iload_n hx hb dX7_copyFrom_11 rfl (lv_at hl 0 rfl) ?_
      refine lv_aload_n hx hb dX7_copyFrom_12 rfl (lv_at hl 2 rfl) ?_
      refine va_get (D := g.1) (ci := 7) (v := Value.ref h1_or) (C := RX7) (T := TX7) (N := 10) hx hb hts inlX7 hown hK hP 6 rfl rfl 0 (by decide) (hts _ q7_8) (fun _ h9 => h9) rfl dX7_copyFrom_13 ?_
      refine lv_iload_n hx hb dX7_copyFrom_16 rfl (lv_at hl 0 rfl) ?_
      refine ia_ld hx hb hK hP 7 1 rfl rfl (k1) rfl (by omega) (by decide) dX7_copyFrom_17 ?_
      obtain ⟨m10, hm10, em10⟩ := ht_h1_or (k1) (by omega)
      refine lv_tope em10 ?_
      refine ia_st hx hb hK hP hD hS 1 1 rfl rfl (k1) rfl (by omega) (by decide) dX7_copyFrom_18 (fun f11 H locs ef11 hP hD hS => ?_)
      have htf11 : TN 5 4 f11 := by rw [ef11]; exact TN_upd (m := m10) hf2 (by omega)
      have hP : va_P g.1 vwCl [(h0, .inr (7, [.ref h0_or, .ref h0_re, .ref h0_ch, .ref h0_ho, .ref h0_gu, .int h0_up, .int (nI h0_standing), .int h0_day, .int h0_seed, .int h0_firstTrue])), (h0_or, .inl (gI g, 5, .inl f11)), (h0_re, .inl (gI g, 5, .inl f3)), (h0_ch, .inl (gI g, 5, .inl f4)), (h0_ho, .inl (gI g, 5, .inl f5)), (h0_gu, .inl (gI g, 5, .inl f6)), (h1, .inr (7, [.ref h1_or, .ref h1_re, .ref h1_ch, .ref h1_ho, .ref h1_gu, .int h1_up, .int (nI h1_standing), .int h1_day, .int h1_seed, .int h1_firstTrue])), (h1_or, .inl (gI g, 5, .inl f_h1_or)), (h1_re, .inl (gI g, 5, .inl f_h1_re)), (h1_ch, .inl (gI g, 5, .inl f_h1_ch)), (h1_ho, .inl (gI g, 5, .inl f_h1_ho)), (h1_gu, .inl (gI g, 5, .inl f_h1_gu))] H := hP
      have hD : va_D A [(h0, .inr (7, [.ref h0_or, .ref h0_re, .ref h0_ch, .ref h0_ho, .ref h0_gu, .int h0_up, .int (nI h0_standing), .int h0_day, .int h0_seed, .int h0_firstTrue])), (h0_or, .inl (gI g, 5, .inl f11)), (h0_re, .inl (gI g, 5, .inl f3)), (h0_ch, .inl (gI g, 5, .inl f4)), (h0_ho, .inl (gI g, 5, .inl f5)), (h0_gu, .inl (gI g, 5, .inl f6)), (h1, .inr (7, [.ref h1_or, .ref h1_re, .ref h1_ch, .ref h1_ho, .ref h1_gu, .int h1_up, .int (nI h1_standing), .int h1_day, .int h1_seed, .int h1_firstTrue])), (h1_or, .inl (gI g, 5, .inl f_h1_or)), (h1_re, .inl (gI g, 5, .inl f_h1_re)), (h1_ch, .inl (gI g, 5, .inl f_h1_ch)), (h1_ho, .inl (gI g, 5, .inl f_h1_ho)), (h1_gu, .inl (gI g, 5, .inl f_h1_gu))] := hD
      refine lv_aload_n hx hb dX7_copyFrom_19 rfl (lv_at hl 1 rfl) ?_
      refine va_get (D := g.1) (ci := 7) (v := Value.ref h0_re) (C := RX7) (T := TX7) (N := 10) hx hb hts inlX7 hown hK hP 0 rfl rfl 1 (by decide) (hts _ q7_9) (fun _ h9 => h9) rfl dX7_copyFrom_20 ?_
      refine lv_iload_n hx hb dX7_copyFrom_23 rfl (lv_at hl 0 rfl) ?_
      refine lv_aload_n hx hb dX7_copyFrom_24 rfl (lv_at hl 2 rfl) ?_
      refine va_get (D := g.1) (ci := 7) (v := Value.ref h1_re) (C := RX7) (T := TX7) (N := 10) hx hb hts inlX7 hown hK hP 6 rfl rfl 1 (by decide) (hts _ q7_9) (fun _ h9 => h9) rfl dX7_copyFrom_25 ?_
      refine lv_iload_n hx hb dX7_copyFrom_28 rfl (lv_at hl 0 rfl) ?_
      refine ia_ld hx hb hK hP 8 1 rfl rfl (k1) rfl (by omega) (by decide) dX7_copyFrom_29 ?_
      refine lv_topi (fun x12 ex12 => ?_)
      refine ia_st hx hb hK hP hD hS 2 1 rfl rfl (k1) rfl (by omega) (by decide) dX7_copyFrom_30 (fun f13 H locs ef13 hP hD hS => ?_)
      have hP : va_P g.1 vwCl [(h0, .inr (7, [.ref h0_or, .ref h0_re, .ref h0_ch, .ref h0_ho, .ref h0_gu, .int h0_up, .int (nI h0_standing), .int h0_day, .int h0_seed, .int h0_firstTrue])), (h0_or, .inl (gI g, 5, .inl f11)), (h0_re, .inl (gI g, 5, .inl f13)), (h0_ch, .inl (gI g, 5, .inl f4)), (h0_ho, .inl (gI g, 5, .inl f5)), (h0_gu, .inl (gI g, 5, .inl f6)), (h1, .inr (7, [.ref h1_or, .ref h1_re, .ref h1_ch, .ref h1_ho, .ref h1_gu, .int h1_up, .int (nI h1_standing), .int h1_day, .int h1_seed, .int h1_firstTrue])), (h1_or, .inl (gI g, 5, .inl f_h1_or)), (h1_re, .inl (gI g, 5, .inl f_h1_re)), (h1_ch, .inl (gI g, 5, .inl f_h1_ch)), (h1_ho, .inl (gI g, 5, .inl f_h1_ho)), (h1_gu, .inl (gI g, 5, .inl f_h1_gu))] H := hP
      have hD : va_D A [(h0, .inr (7, [.ref h0_or, .ref h0_re, .ref h0_ch, .ref h0_ho, .ref h0_gu, .int h0_up, .int (nI h0_standing), .int h0_day, .int h0_seed, .int h0_firstTrue])), (h0_or, .inl (gI g, 5, .inl f11)), (h0_re, .inl (gI g, 5, .inl f13)), (h0_ch, .inl (gI g, 5, .inl f4)), (h0_ho, .inl (gI g, 5, .inl f5)), (h0_gu, .inl (gI g, 5, .inl f6)), (h1, .inr (7, [.ref h1_or, .ref h1_re, .ref h1_ch, .ref h1_ho, .ref h1_gu, .int h1_up, .int (nI h1_standing), .int h1_day, .int h1_seed, .int h1_firstTrue])), (h1_or, .inl (gI g, 5, .inl f_h1_or)), (h1_re, .inl (gI g, 5, .inl f_h1_re)), (h1_ch, .inl (gI g, 5, .inl f_h1_ch)), (h1_ho, .inl (gI g, 5, .inl f_h1_ho)), (h1_gu, .inl (gI g, 5, .inl f_h1_gu))] := hD
      refine lv_aload_n hx hb dX7_copyFrom_31 rfl (lv_at hl 1 rfl) ?_
      refine va_get (D := g.1) (ci := 7) (v := Value.ref h0_ch) (C := RX7) (T := TX7) (N := 10) hx hb hts inlX7 hown hK hP 0 rfl rfl 2 (by decide) (hts _ q7_10) (fun _ h9 => h9) rfl dX7_copyFrom_32 ?_
      refine lv_iload_n hx hb dX7_copyFrom_35 rfl (lv_at hl 0 rfl) ?_
      refine lv_aload_n hx hb dX7_copyFrom_36 rfl (lv_at hl 2 rfl) ?_
      refine va_get (D := g.1) (ci := 7) (v := Value.ref h1_ch) (C := RX7) (T := TX7) (N := 10) hx hb hts inlX7 hown hK hP 6 rfl rfl 2 (by decide) (hts _ q7_10) (fun _ h9 => h9) rfl dX7_copyFrom_37 ?_
      refine lv_iload_n hx hb dX7_copyFrom_40 rfl (lv_at hl 0 rfl) ?_
      refine ia_ld hx hb hK hP 9 1 rfl rfl (k1) rfl (by omega) (by decide) dX7_copyFrom_41 ?_
      refine lv_topi (fun x14 ex14 => ?_)
      refine ia_st hx hb hK hP hD hS 3 1 rfl rfl (k1) rfl (by omega) (by decide) dX7_copyFrom_42 (fun f15 H locs ef15 hP hD hS => ?_)
      have hP : va_P g.1 vwCl [(h0, .inr (7, [.ref h0_or, .ref h0_re, .ref h0_ch, .ref h0_ho, .ref h0_gu, .int h0_up, .int (nI h0_standing), .int h0_day, .int h0_seed, .int h0_firstTrue])), (h0_or, .inl (gI g, 5, .inl f11)), (h0_re, .inl (gI g, 5, .inl f13)), (h0_ch, .inl (gI g, 5, .inl f15)), (h0_ho, .inl (gI g, 5, .inl f5)), (h0_gu, .inl (gI g, 5, .inl f6)), (h1, .inr (7, [.ref h1_or, .ref h1_re, .ref h1_ch, .ref h1_ho, .ref h1_gu, .int h1_up, .int (nI h1_standing), .int h1_day, .int h1_seed, .int h1_firstTrue])), (h1_or, .inl (gI g, 5, .inl f_h1_or)), (h1_re, .inl (gI g, 5, .inl f_h1_re)), (h1_ch, .inl (gI g, 5, .inl f_h1_ch)), (h1_ho, .inl (gI g, 5, .inl f_h1_ho)), (h1_gu, .inl (gI g, 5, .inl f_h1_gu))] H := hP
      have hD : va_D A [(h0, .inr (7, [.ref h0_or, .ref h0_re, .ref h0_ch, .ref h0_ho, .ref h0_gu, .int h0_up, .int (nI h0_standing), .int h0_day, .int h0_seed, .int h0_firstTrue])), (h0_or, .inl (gI g, 5, .inl f11)), (h0_re, .inl (gI g, 5, .inl f13)), (h0_ch, .inl (gI g, 5, .inl f15)), (h0_ho, .inl (gI g, 5, .inl f5)), (h0_gu, .inl (gI g, 5, .inl f6)), (h1, .inr (7, [.ref h1_or, .ref h1_re, .ref h1_ch, .ref h1_ho, .ref h1_gu, .int h1_up, .int (nI h1_standing), .int h1_day, .int h1_seed, .int h1_firstTrue])), (h1_or, .inl (gI g, 5, .inl f_h1_or)), (h1_re, .inl (gI g, 5, .inl f_h1_re)), (h1_ch, .inl (gI g, 5, .inl f_h1_ch)), (h1_ho, .inl (gI g, 5, .inl f_h1_ho)), (h1_gu, .inl (gI g, 5, .inl f_h1_gu))] := hD
      refine lv_aload_n hx hb dX7_copyFrom_43 rfl (lv_at hl 1 rfl) ?_
      refine va_get (D := g.1) (ci := 7) (v := Value.ref h0_ho) (C := RX7) (T := TX7) (N := 10) hx hb hts inlX7 hown hK hP 0 rfl rfl 3 (by decide) (hts _ q7_11) (fun _ h9 => h9) rfl dX7_copyFrom_44 ?_
      refine lv_iload_n hx hb dX7_copyFrom_47 rfl (lv_at hl 0 rfl) ?_
      refine lv_aload_n hx hb dX7_copyFrom_48 rfl (lv_at hl 2 rfl) ?_
      refine va_get (D := g.1) (ci := 7) (v := Value.ref h1_ho) (C := RX7) (T := TX7) (N := 10) hx hb hts inlX7 hown hK hP 6 rfl rfl 3 (by decide) (hts _ q7_11) (fun _ h9 => h9) rfl dX7_copyFrom_49 ?_
      refine lv_iload_n hx hb dX7_copyFrom_52 rfl (lv_at hl 0 rfl) ?_
      refine ia_ld hx hb hK hP 10 1 rfl rfl (k1) rfl (by omega) (by decide) dX7_copyFrom_53 ?_
      obtain ⟨x17, ex17⟩ : ∃ y : Int32, y = f_h1_ho (k1) := ⟨_, rfl⟩
      have hx17 : XM 4 x17 := by rw [ex17]; exact ht_h1_ho (k1) (by omega)
      refine lv_tope ex17.symm ?_
      refine ia_st hx hb hK hP hD hS 4 1 rfl rfl (k1) rfl (by omega) (by decide) dX7_copyFrom_54 (fun f18 H locs ef18 hP hD hS => ?_)
      have htf18 : TM 5 4 f18 := by rw [ef18]; exact TM_upd hf5 hx17
      have hP : va_P g.1 vwCl [(h0, .inr (7, [.ref h0_or, .ref h0_re, .ref h0_ch, .ref h0_ho, .ref h0_gu, .int h0_up, .int (nI h0_standing), .int h0_day, .int h0_seed, .int h0_firstTrue])), (h0_or, .inl (gI g, 5, .inl f11)), (h0_re, .inl (gI g, 5, .inl f13)), (h0_ch, .inl (gI g, 5, .inl f15)), (h0_ho, .inl (gI g, 5, .inl f18)), (h0_gu, .inl (gI g, 5, .inl f6)), (h1, .inr (7, [.ref h1_or, .ref h1_re, .ref h1_ch, .ref h1_ho, .ref h1_gu, .int h1_up, .int (nI h1_standing), .int h1_day, .int h1_seed, .int h1_firstTrue])), (h1_or, .inl (gI g, 5, .inl f_h1_or)), (h1_re, .inl (gI g, 5, .inl f_h1_re)), (h1_ch, .inl (gI g, 5, .inl f_h1_ch)), (h1_ho, .inl (gI g, 5, .inl f_h1_ho)), (h1_gu, .inl (gI g, 5, .inl f_h1_gu))] H := hP
      have hD : va_D A [(h0, .inr (7, [.ref h0_or, .ref h0_re, .ref h0_ch, .ref h0_ho, .ref h0_gu, .int h0_up, .int (nI h0_standing), .int h0_day, .int h0_seed, .int h0_firstTrue])), (h0_or, .inl (gI g, 5, .inl f11)), (h0_re, .inl (gI g, 5, .inl f13)), (h0_ch, .inl (gI g, 5, .inl f15)), (h0_ho, .inl (gI g, 5, .inl f18)), (h0_gu, .inl (gI g, 5, .inl f6)), (h1, .inr (7, [.ref h1_or, .ref h1_re, .ref h1_ch, .ref h1_ho, .ref h1_gu, .int h1_up, .int (nI h1_standing), .int h1_day, .int h1_seed, .int h1_firstTrue])), (h1_or, .inl (gI g, 5, .inl f_h1_or)), (h1_re, .inl (gI g, 5, .inl f_h1_re)), (h1_ch, .inl (gI g, 5, .inl f_h1_ch)), (h1_ho, .inl (gI g, 5, .inl f_h1_ho)), (h1_gu, .inl (gI g, 5, .inl f_h1_gu))] := hD
      refine lv_aload_n hx hb dX7_copyFrom_55 rfl (lv_at hl 1 rfl) ?_
      refine va_get (D := g.1) (ci := 7) (v := Value.ref h0_gu) (C := RX7) (T := TX7) (N := 10) hx hb hts inlX7 hown hK hP 0 rfl rfl 4 (by decide) (hts _ q7_12) (fun _ h9 => h9) rfl dX7_copyFrom_56 ?_
      refine lv_iload_n hx hb dX7_copyFrom_59 rfl (lv_at hl 0 rfl) ?_
      refine lv_aload_n hx hb dX7_copyFrom_60 rfl (lv_at hl 2 rfl) ?_
      refine va_get (D := g.1) (ci := 7) (v := Value.ref h1_gu) (C := RX7) (T := TX7) (N := 10) hx hb hts inlX7 hown hK hP 6 rfl rfl 4 (by decide) (hts _ q7_12) (fun _ h9 => h9) rfl dX7_copyFrom_61 ?_
      refine lv_iload_n hx hb dX7_copyFrom_64 rfl (lv_at hl 0 rfl) ?_
      refine ia_ld hx hb hK hP 11 1 rfl rfl (k1) rfl (by omega) (by decide) dX7_copyFrom_65 ?_
      obtain ⟨x20, ex20⟩ : ∃ y : Int32, y = f_h1_gu (k1) := ⟨_, rfl⟩
      have hx20 : XM 4 x20 := by rw [ex20]; exact ht_h1_gu (k1) (by omega)
      refine lv_tope ex20.symm ?_
      refine ia_st hx hb hK hP hD hS 5 1 rfl rfl (k1) rfl (by omega) (by decide) dX7_copyFrom_66 (fun f21 H locs ef21 hP hD hS => ?_)
      have htf21 : TM 5 4 f21 := by rw [ef21]; exact TM_upd hf6 hx20
      have hP : va_P g.1 vwCl [(h0, .inr (7, [.ref h0_or, .ref h0_re, .ref h0_ch, .ref h0_ho, .ref h0_gu, .int h0_up, .int (nI h0_standing), .int h0_day, .int h0_seed, .int h0_firstTrue])), (h0_or, .inl (gI g, 5, .inl f11)), (h0_re, .inl (gI g, 5, .inl f13)), (h0_ch, .inl (gI g, 5, .inl f15)), (h0_ho, .inl (gI g, 5, .inl f18)), (h0_gu, .inl (gI g, 5, .inl f21)), (h1, .inr (7, [.ref h1_or, .ref h1_re, .ref h1_ch, .ref h1_ho, .ref h1_gu, .int h1_up, .int (nI h1_standing), .int h1_day, .int h1_seed, .int h1_firstTrue])), (h1_or, .inl (gI g, 5, .inl f_h1_or)), (h1_re, .inl (gI g, 5, .inl f_h1_re)), (h1_ch, .inl (gI g, 5, .inl f_h1_ch)), (h1_ho, .inl (gI g, 5, .inl f_h1_ho)), (h1_gu, .inl (gI g, 5, .inl f_h1_gu))] H := hP
      have hD : va_D A [(h0, .inr (7, [.ref h0_or, .ref h0_re, .ref h0_ch, .ref h0_ho, .ref h0_gu, .int h0_up, .int (nI h0_standing), .int h0_day, .int h0_seed, .int h0_firstTrue])), (h0_or, .inl (gI g, 5, .inl f11)), (h0_re, .inl (gI g, 5, .inl f13)), (h0_ch, .inl (gI g, 5, .inl f15)), (h0_ho, .inl (gI g, 5, .inl f18)), (h0_gu, .inl (gI g, 5, .inl f21)), (h1, .inr (7, [.ref h1_or, .ref h1_re, .ref h1_ch, .ref h1_ho, .ref h1_gu, .int h1_up, .int (nI h1_standing), .int h1_day, .int h1_seed, .int h1_firstTrue])), (h1_or, .inl (gI g, 5, .inl f_h1_or)), (h1_re, .inl (gI g, 5, .inl f_h1_re)), (h1_ch, .inl (gI g, 5, .inl f_h1_ch)), (h1_ho, .inl (gI g, 5, .inl f_h1_ho)), (h1_gu, .inl (gI g, 5, .inl f_h1_gu))] := hD
      refine lv_iinc (v := (nI (k1 + 1))) (lv' := [(2, .int (nI (k1 + 1))), (0, .ref h0), (1, .ref h1)]) hx hb dX7_copyFrom_67 hl (k := 0) rfl (nI_1 _) (by decide) rfl (fun ls hl => ?_)
      refine lv_goto (tgt := 2) hx hb dX7_copyFrom_70 (by decide) ?_
      exact ihk1 (k1 + 1) (by omega) H locs ls f11 f13 f15 f18 f21 (htf11) (htf18) (htf21) hP hD hS (lv_sub hl [0, 1, 2] rfl)
  exact loop7 (5 - (0)) (0) (by omega) H locs ls f_h0_or f_h0_re f_h0_ch f_h0_ho f_h0_gu (ht_h0_or) (ht_h0_ho) (ht_h0_gu) hP hD hS hl
